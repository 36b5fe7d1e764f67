section LNL
variable {p : Program} {l : Launch} {e : Env} {R : Room} {s : State} {m : MethodId} {args : Array Value} {below : List Frame} {meth : Method} {c : Code} {H : Heap} {locs : List Loc} {cells slots : Nat} {Q : State → Prop}
variable {cc : ByteArray} {nL : Nat} {own : String} {D : va_G} {g : Nat → ClassId} {d : Nat} {pc : Nat} {ls : Array Slot} {rest : List Value}
theorem ln_cmp0 {q : Nat} (h : q < 2 ^ 63) : lg_cmp (lN q) (lN 0) = nI (if q = 0 then 0 else 1) := by
  by_cases e : q = 0
  · subst e; rw [if_pos rfl]; simp [lg_cmp]; rfl
  · have h1 : lN 0 < lN q := (pk_lLT (by decide) h).mpr (by omega)
    rw [if_neg e]; simp [lg_cmp, h1]; rfl
theorem rn_lcmp0 (X : ln_X p R s m c cc nL own D g d) {q : Nat} (h : q < 2 ^ 63) (hdg : decode cc pc = .ok (.lcmp, 1)) (kk : W p l e R s m args below meth c H locs cells slots Q (F0 m (pc + 1) ls (.int (nI (if q = 0 then 0 else 1)) :: rest))) : W p l e R s m args below meth c H locs cells slots Q (F0 m pc ls (.long (lN 0) :: .long (lN q) :: rest)) :=
  W.lcmp X.1 X.2.1 hdg (by rw [ln_cmp0 h]; exact kk)
theorem rn_lrem (X : ln_X p R s m c cc nL own D g d) {q : Nat} (h : q < 2 ^ 63) (hdg : decode cc pc = .ok (.lrem, 1)) (kk : W p l e R s m args below meth c H locs cells slots Q (F0 m (pc + 1) ls (.long (lN (q % 13)) :: rest))) : W p l e R s m args below meth c H locs cells slots Q (F0 m pc ls (.long 13 :: .long (lN q) :: rest)) :=
  lv_lrem X.1 X.2.1 hdg (by decide) (by rw [show (13 : Int64) = lN 13 from rfl, pk_lRem h (by decide) (by decide)]; exact kk)
theorem rn_ldiv (X : ln_X p R s m c cc nL own D g d) {q : Nat} (h : q < 2 ^ 63) (hdg : decode cc pc = .ok (.ldiv, 1)) (kk : W p l e R s m args below meth c H locs cells slots Q (F0 m (pc + 1) ls (.long (lN (q / 13)) :: rest))) : W p l e R s m args below meth c H locs cells slots Q (F0 m pc ls (.long 13 :: .long (lN q) :: rest)) :=
  lv_ldiv X.1 X.2.1 hdg (by decide) (by rw [show (13 : Int64) = lN 13 from rfl, pk_lDiv h (by decide) (by decide)]; exact kk)
theorem rn_l2i (X : ln_X p R s m c cc nL own D g d) {q : Nat} (hdg : decode cc pc = .ok (.l2i, 1)) (kk : W p l e R s m args below meth c H locs cells slots Q (F0 m (pc + 1) ls (.int (nI q) :: rest))) : W p l e R s m args below meth c H locs cells slots Q (F0 m pc ls (.long (lN q) :: rest)) :=
  lv_l2i X.1 X.2.1 hdg (lN_i q) kk
end LNL
theorem ln_mn_le {g : Nat → Nat} {c : Nat → Bool} : ∀ {k p : Nat}, p < k → c p = true → ln_mn g c k ≤ g p
  | 0, p, h, _ => absurd h (Nat.not_lt_zero p)
  | k + 1, p, h, hc => by
    show (if c k = true ∧ g k < ln_mn g c k then g k else ln_mn g c k) ≤ g p
    by_cases e : p = k
    · subst e; split
      · exact Nat.le_refl _
      · rename_i q; exact Nat.le_of_not_lt (fun z => q ⟨hc, z⟩)
    · have := ln_mn_le (g := g) (show p < k by omega) hc
      split <;> omega
theorem ln_mn_ge {g : Nat → Nat} {c : Nat → Bool} {v : Nat} (hv : v ≤ 1000000) : ∀ {k : Nat}, (∀ p, p < k → c p = true → v ≤ g p) → v ≤ ln_mn g c k
  | 0, _ => hv
  | k + 1, h => by
    show v ≤ (if c k = true ∧ g k < ln_mn g c k then g k else ln_mn g c k)
    have h1 := ln_mn_ge hv (k := k) (fun p hp => h p (by omega))
    split
    · rename_i q; exact h k (by omega) q.1
    · exact h1
theorem ln_mn_cong {g f : Nat → Nat} {c : Nat → Bool} : ∀ {k : Nat}, (∀ p, p < k → c p = true → g p = f p) → ln_mn g c k = ln_mn f c k
  | 0, _ => rfl
  | k + 1, h => by
    show (if c k = true ∧ g k < ln_mn g c k then g k else ln_mn g c k) = (if c k = true ∧ f k < ln_mn f c k then f k else ln_mn f c k)
    rw [ln_mn_cong (fun p hp => h p (by omega))]
    by_cases hc : c k = true
    · rw [h k (by omega) hc]
    · rw [if_neg (fun q => hc q.1), if_neg (fun q => hc q.1)]
theorem ln_notb {b : Bool} : (!b) = true ↔ b = false := by cases b <;> decide
theorem ln_bt_eq {N : ln_N} (hW : ln_wf N) {S : Nat} (hS : S < 4096) : ln_bt N S = ln_btF N (ln_bt N) S := by
  refine ln_dv_eq (fun f g T hT h => ?_) hS
  unfold ln_btF
  split
  · rfl
  · split
    · rfl
    · refine congrArg (fun z => 1 + z) (ln_mn_cong (fun p hp hc => ?_))
      exact h _ (Nat.lt_of_le_of_lt (ln_sb_le (ln_sb_or T _)) (ln_sb_put (ln_notb.mp hc))) (ln_or12 (ln_wb12 hW hT) (ln_p12 (by have := hW.n12; omega)))
theorem ln_bt_all {N : ln_N} (hW : ln_wf N) : ln_bt N (2 ^ N 0 0 - 1) = 0 := by
  rw [ln_bt_eq hW (ln_n12 hW (ln_all_lt _))]; exact if_pos rfl
theorem ln_bt_1 {N : ln_N} (hW : ln_wf N) {S : Nat} (hS : S < 2 ^ N 0 0) (h0 : S ≠ 2 ^ N 0 0 - 1) (h : ln_wb N S = 2 ^ N 0 0 - 1) : ln_bt N S = 1 := by
  rw [ln_bt_eq hW (ln_n12 hW hS)]; unfold ln_btF; rw [if_neg h0, if_pos h]
theorem ln_bt_2 {N : ln_N} (hW : ln_wf N) {S : Nat} (hS : S < 2 ^ N 0 0) (h0 : S ≠ 2 ^ N 0 0 - 1) (h : ln_wb N S ≠ 2 ^ N 0 0 - 1) : ln_bt N S = 1 + ln_mn (fun p => ln_bt N (ln_wb N S ||| 2 ^ p)) (fun p => !(ln_wb N S).testBit p) (N 0 0) := by
  rw [ln_bt_eq hW (ln_n12 hW hS)]; unfold ln_btF; rw [if_neg h0, if_neg h]
theorem ln_free {N : ln_N} {R : Nat} (hR : R < 2 ^ N 0 0) (h : R ≠ 2 ^ N 0 0 - 1) : ∃ p, p < N 0 0 ∧ R.testBit p = false := by
  obtain ⟨p, h1, h2⟩ := ln_sb_exists (ln_sb_all hR) h
  rw [ln_all_bit] at h1
  exact ⟨p, of_decide_eq_true h1, h2⟩
theorem ln_put_lt {N : ln_N} {R p : Nat} (hR : R < 2 ^ N 0 0) (hp : p < N 0 0) : R ||| 2 ^ p < 2 ^ N 0 0 := Nat.or_lt_two_pow hR (Nat.pow_lt_pow_right (by decide) hp)
theorem ln_pc_put {N : ln_N} (hW : ln_wf N) {S R p : Nat} (hR : R < 2 ^ N 0 0) (hp : p < N 0 0) (h : ln_sb S R) (hb : R.testBit p = false) : ln_pc S < ln_pc (R ||| 2 ^ p) :=
  ln_pc_lt (ln_sb_tr h (ln_sb_or R _)) (ln_n12 hW (ln_put_lt hR hp)) (Nat.ne_of_lt (Nat.lt_of_le_of_lt (ln_sb_le h) (ln_sb_put hb)))
theorem ln_bt_le {N : ln_N} (hW : ln_wf N) : ∀ (m S : Nat), 2 ^ N 0 0 - S ≤ m → S < 2 ^ N 0 0 → ln_bt N S + ln_pc S ≤ 12
  | 0, S, h1, h2 => by omega
  | m + 1, S, h1, h2 => by
    by_cases h0 : S = 2 ^ N 0 0 - 1
    · rw [h0, ln_bt_all hW]; have := ln_pc_le (2 ^ N 0 0 - 1); omega
    · by_cases h : ln_wb N S = 2 ^ N 0 0 - 1
      · rw [ln_bt_1 hW h2 h0 h]
        have := ln_pc_all hW (show S < 2 ^ N 0 0 - 1 by omega)
        have := ln_pc_le (2 ^ N 0 0 - 1)
        omega
      · rw [ln_bt_2 hW h2 h0 h]
        obtain ⟨p, hp, hb⟩ := ln_free (ln_wb_lt hW h2) h
        have h3 := ln_mn_le (g := fun p => ln_bt N (ln_wb N S ||| 2 ^ p)) (c := fun p => !(ln_wb N S).testBit p) hp (ln_notb.mpr hb)
        have h4 := ln_pc_put hW (ln_wb_lt hW h2) hp (ln_sb_or S _) hb
        have h5 : S < ln_wb N S ||| 2 ^ p := Nat.lt_of_le_of_lt (ln_sb_le (ln_sb_or S _)) (ln_sb_put hb)
        have h6 := ln_bt_le hW m (ln_wb N S ||| 2 ^ p) (by omega) (ln_put_lt (ln_wb_lt hW h2) hp)
        have h7 : ln_mn (fun p => ln_bt N (ln_wb N S ||| 2 ^ p)) (fun p => !(ln_wb N S).testBit p) (N 0 0) ≤ ln_bt N (ln_wb N S ||| 2 ^ p) := h3
        have h8 : ln_pc S < ln_pc (ln_wb N S ||| 2 ^ p) := h4
        omega
theorem ln_bt12 {N : ln_N} (hW : ln_wf N) {S : Nat} (hS : S < 2 ^ N 0 0) : ln_bt N S ≤ 12 := by have := ln_bt_le hW _ S (Nat.le_refl _) hS; omega
/-- the best post for a hand -/
def ln_bpf (N : ln_N) (R : Nat) : Nat → Bool := fun p => !R.testBit p && decide (ln_bt N (R ||| 2 ^ p) = ln_mn (fun p => ln_bt N (R ||| 2 ^ p)) (fun p => !R.testBit p) (N 0 0))
def ln_bp (N : ln_N) (R : Nat) : Nat := ln_fs (ln_bpf N R) (N 0 0)
theorem ln_bp_eq {N : ln_N} (hW : ln_wf N) {R b : Nat} (hR : R < 2 ^ N 0 0) (hb : b < N 0 0) (hc : R.testBit b = false) (h1 : ∀ p, p < N 0 0 → R.testBit p = false → ln_bt N (R ||| 2 ^ b) ≤ ln_bt N (R ||| 2 ^ p)) (h2 : ∀ p, p < b → R.testBit p = false → ln_bt N (R ||| 2 ^ b) < ln_bt N (R ||| 2 ^ p)) : ln_bp N R = b := by
  have e : ln_mn (fun p => ln_bt N (R ||| 2 ^ p)) (fun p => !R.testBit p) (N 0 0) = ln_bt N (R ||| 2 ^ b) := Nat.le_antisymm (ln_mn_le (g := fun p => ln_bt N (R ||| 2 ^ p)) hb (ln_notb.mpr hc)) (ln_mn_ge (g := fun p => ln_bt N (R ||| 2 ^ p)) (by have := ln_bt12 hW (ln_put_lt hR hb); omega) (fun p hp hq => h1 p hp (ln_notb.mp hq)))
  refine ln_fs_eq ?_ (fun j hj => ?_) hb
  · unfold ln_bpf; rw [hc, e, decide_eq_true rfl]; rfl
  · unfold ln_bpf
    rw [e]
    cases hj2 : R.testBit j with
    | true => rfl
    | false => rw [decide_eq_false (by have := h2 j hj hj2; omega)]; rfl
theorem ln_bp_ok {N : ln_N} (hW : ln_wf N) {R : Nat} (hR : R < 2 ^ N 0 0) (h : R ≠ 2 ^ N 0 0 - 1) : ln_bp N R < N 0 0 ∧ R.testBit (ln_bp N R) = false ∧ ln_bt N (R ||| 2 ^ ln_bp N R) = ln_mn (fun p => ln_bt N (R ||| 2 ^ p)) (fun p => !R.testBit p) (N 0 0) := by
  have key : ∃ p, p < N 0 0 ∧ ln_bpf N R p = true := by
    refine Classical.byContradiction (fun hn => ?_)
    obtain ⟨p0, hp0, hb0⟩ := ln_free hR h
    have hall : ∀ p, p < N 0 0 → R.testBit p = false → ln_mn (fun p => ln_bt N (R ||| 2 ^ p)) (fun p => !R.testBit p) (N 0 0) + 1 ≤ ln_bt N (R ||| 2 ^ p) := by
      intro p hp hb
      have h1 : ln_mn (fun p => ln_bt N (R ||| 2 ^ p)) (fun p => !R.testBit p) (N 0 0) ≤ ln_bt N (R ||| 2 ^ p) := ln_mn_le (g := fun p => ln_bt N (R ||| 2 ^ p)) hp (ln_notb.mpr hb)
      refine Nat.lt_of_le_of_ne h1 (fun q => hn ⟨p, hp, ?_⟩)
      unfold ln_bpf; rw [hb, decide_eq_true q.symm]; rfl
    have h2 := hall p0 hp0 hb0
    have h3 := ln_bt12 hW (ln_put_lt hR hp0)
    have h4 := ln_mn_ge (g := fun p => ln_bt N (R ||| 2 ^ p)) (c := fun p => !R.testBit p) (v := ln_mn (fun p => ln_bt N (R ||| 2 ^ p)) (fun p => !R.testBit p) (N 0 0) + 1) (by omega) (k := N 0 0) (fun p hp hq => hall p hp (ln_notb.mp hq))
    omega
  obtain ⟨p, hp, hf⟩ := key
  have h1 := ln_fs_ex hp hf
  have h2 := ln_fs_yes h1
  unfold ln_bpf at h2
  rw [Bool.and_eq_true] at h2
  exact ⟨h1, ln_notb.mp h2.1, of_decide_eq_true h2.2⟩
theorem ln_bt_3 {N : ln_N} (hW : ln_wf N) {S : Nat} (hS : S < 2 ^ N 0 0) (h0 : S ≠ 2 ^ N 0 0 - 1) (h : ln_wb N S ≠ 2 ^ N 0 0 - 1) : ln_bt N S = 1 + ln_bt N (ln_wb N S ||| 2 ^ ln_bp N (ln_wb N S)) := by
  rw [ln_bt_2 hW hS h0 h, (ln_bp_ok hW (ln_wb_lt hW hS) h).2.2]
theorem ln_wb_all {N : ln_N} (hW : ln_wf N) : ln_wb N (2 ^ N 0 0 - 1) = 2 ^ N 0 0 - 1 := by
  have h1 := ln_wb_lt hW (ln_all_lt (N 0 0))
  have h2 := ln_sb_le (ln_sb_or (2 ^ N 0 0 - 1) (ln_bhs N (2 ^ N 0 0 - 1) (N 0 0)))
  have h3 : 2 ^ N 0 0 - 1 ≤ ln_wb N (2 ^ N 0 0 - 1) := h2
  omega
def ln_hl (N : ln_N) (x : Int32) : Nat → Nat → Nat → Int32
  | 0, _, _ => -1
  | f + 1, k, on => if ln_wb N on = 2 ^ N 0 0 - 1 then -1 else if nI k = x then nI (ln_bp N (ln_wb N on)) else ln_hl N x f (k + 1) (ln_wb N on ||| 2 ^ ln_bp N (ln_wb N on))
theorem ln_hl_a {N : ln_N} {x : Int32} {f k on : Nat} (h : ln_wb N on = 2 ^ N 0 0 - 1) : ln_hl N x f k on = -1 := by
  cases f with
  | zero => rfl
  | succ f => exact if_pos h
theorem ln_hl_b {N : ln_N} {x : Int32} {f k on : Nat} (h : ln_wb N on ≠ 2 ^ N 0 0 - 1) (h2 : nI k = x) : ln_hl N x (f + 1) k on = nI (ln_bp N (ln_wb N on)) := by
  show (if ln_wb N on = 2 ^ N 0 0 - 1 then -1 else if nI k = x then nI (ln_bp N (ln_wb N on)) else _) = _
  rw [if_neg h, if_pos h2]
theorem ln_hl_c {N : ln_N} {x : Int32} {f k on : Nat} (h : ln_wb N on ≠ 2 ^ N 0 0 - 1) (h2 : ¬ nI k = x) : ln_hl N x (f + 1) k on = ln_hl N x f (k + 1) (ln_wb N on ||| 2 ^ ln_bp N (ln_wb N on)) := by
  show (if ln_wb N on = 2 ^ N 0 0 - 1 then -1 else if nI k = x then nI (ln_bp N (ln_wb N on)) else _) = _
  rw [if_neg h, if_neg h2]
/-- burning by told hands -/
def ln_bn (N : ln_N) : Nat → Nat → Nat → Nat → Int32
  | 0, _, _, _ => -1
  | f + 1, t, on, q => if on = 2 ^ N 0 0 - 1 then nI t else if ln_wb N on ≠ 2 ^ N 0 0 - 1 ∧ q ≠ 0 then (if 1 ≤ q % 13 ∧ q % 13 - 1 < N 0 0 ∧ (ln_wb N on).testBit (q % 13 - 1) = false then ln_bn N f (t + 1) (ln_wb N on ||| 2 ^ (q % 13 - 1)) (q / 13) else -2) else if ln_wb N on = on then -1 else ln_bn N f (t + 1) (ln_wb N on) q
theorem ln_bn_s (N : ln_N) (f t on q : Nat) : ln_bn N (f + 1) t on q = if on = 2 ^ N 0 0 - 1 then nI t else if ln_wb N on ≠ 2 ^ N 0 0 - 1 ∧ q ≠ 0 then (if 1 ≤ q % 13 ∧ q % 13 - 1 < N 0 0 ∧ (ln_wb N on).testBit (q % 13 - 1) = false then ln_bn N f (t + 1) (ln_wb N on ||| 2 ^ (q % 13 - 1)) (q / 13) else -2) else if ln_wb N on = on then -1 else ln_bn N f (t + 1) (ln_wb N on) q := rfl
theorem ln_bn_a {N : ln_N} {f t on q : Nat} (h : on = 2 ^ N 0 0 - 1) : ln_bn N (f + 1) t on q = nI t := by rw [ln_bn_s, if_pos h]
theorem ln_bn_b {N : ln_N} {f t on q j : Nat} (h : on ≠ 2 ^ N 0 0 - 1) (h2 : ln_wb N on ≠ 2 ^ N 0 0 - 1) (h3 : q ≠ 0) (hj : q % 13 = j + 1) (h4 : j < N 0 0) (h5 : (ln_wb N on).testBit j = false) : ln_bn N (f + 1) t on q = ln_bn N f (t + 1) (ln_wb N on ||| 2 ^ j) (q / 13) := by
  rw [ln_bn_s, if_neg h, if_pos ⟨h2, h3⟩, hj, Nat.add_sub_cancel, if_pos ⟨by omega, h4, h5⟩]
theorem ln_bn_c {N : ln_N} {f t on q : Nat} (h : on ≠ 2 ^ N 0 0 - 1) (h2 : ln_wb N on ≠ 2 ^ N 0 0 - 1) (h3 : q ≠ 0) (h4 : ¬ (1 ≤ q % 13 ∧ q % 13 - 1 < N 0 0 ∧ (ln_wb N on).testBit (q % 13 - 1) = false)) : ln_bn N (f + 1) t on q = -2 := by
  rw [ln_bn_s, if_neg h, if_pos ⟨h2, h3⟩, if_neg h4]
theorem ln_bn_d {N : ln_N} {f t on q : Nat} (h : on ≠ 2 ^ N 0 0 - 1) (h2 : ln_wb N on = 2 ^ N 0 0 - 1 ∨ q = 0) (h3 : ln_wb N on = on) : ln_bn N (f + 1) t on q = -1 := by
  rw [ln_bn_s, if_neg h, if_neg (fun z => h2.elim z.1 z.2), if_pos h3]
theorem ln_bn_e {N : ln_N} {f t on q : Nat} (h : on ≠ 2 ^ N 0 0 - 1) (h2 : ln_wb N on = 2 ^ N 0 0 - 1 ∨ q = 0) (h3 : ln_wb N on ≠ on) : ln_bn N (f + 1) t on q = ln_bn N f (t + 1) (ln_wb N on) q := by
  rw [ln_bn_s, if_neg h, if_neg (fun z => h2.elim z.1 z.2), if_neg h3]
theorem ln_ite0 {q : Nat} (h : (if q = 0 then 0 else 1) = 0) : q = 0 := Classical.byContradiction (fun e => by rw [if_neg e] at h; exact absurd h (by decide))
theorem ln_ite1 {q : Nat} (h : (if q = 0 then 0 else 1) ≠ 0) : q ≠ 0 := fun e => h (if_pos e)
def ln_bpI (N : ln_N) (R b v k : Nat) : Prop := (b = 0 ∧ v = 13 ∧ ∀ p, p < k → R.testBit p = true) ∨ (b < k ∧ R.testBit b = false ∧ v = ln_bt N (R ||| 2 ^ b) ∧ (∀ p, p < k → R.testBit p = false → v ≤ ln_bt N (R ||| 2 ^ p)) ∧ ∀ p, p < b → R.testBit p = false → v < ln_bt N (R ||| 2 ^ p))
theorem ln_bpI_skip {N : ln_N} {R b v k : Nat} (h : ln_bpI N R b v k) (hk : R.testBit k = true) : ln_bpI N R b v (k + 1) := by
  rcases h with ⟨h1, h2, h3⟩ | ⟨h1, h2, h3, h4, h5⟩
  · exact Or.inl ⟨h1, h2, fun p hp => by by_cases e : p = k; (· subst e; exact hk); (· exact h3 p (by omega))⟩
  · exact Or.inr ⟨by omega, h2, h3, fun p hp hb => by by_cases e : p = k; (· subst e; rw [hk] at hb; exact absurd hb (by decide)); (· exact h4 p (by omega) hb), h5⟩
theorem ln_bpI_keep {N : ln_N} {R b v k : Nat} (h : ln_bpI N R b v k) (h12 : ln_bt N (R ||| 2 ^ k) ≤ 12) (hv : v ≤ ln_bt N (R ||| 2 ^ k)) : ln_bpI N R b v (k + 1) := by
  rcases h with ⟨h1, h2, h3⟩ | ⟨h1, h2, h3, h4, h5⟩
  · omega
  · exact Or.inr ⟨by omega, h2, h3, fun p hp hb => by by_cases e : p = k; (· subst e; exact hv); (· exact h4 p (by omega) hb), h5⟩
theorem ln_bpI_take {N : ln_N} {R b v k : Nat} (h : ln_bpI N R b v k) (hk : R.testBit k = false) (hv : ln_bt N (R ||| 2 ^ k) < v) : ln_bpI N R k (ln_bt N (R ||| 2 ^ k)) (k + 1) := by
  rcases h with ⟨h1, h2, h3⟩ | ⟨h1, h2, h3, h4, h5⟩
  · exact Or.inr ⟨by omega, hk, rfl, fun p hp hb => by by_cases e : p = k; (· subst e; omega); (· rw [h3 p (by omega)] at hb; exact absurd hb (by decide)), fun p hp hb => by rw [h3 p hp] at hb; exact absurd hb (by decide)⟩
  · exact Or.inr ⟨by omega, hk, rfl, fun p hp hb => by by_cases e : p = k; (· subst e; omega); (· have := h4 p (by omega) hb; omega), fun p hp hb => by have := h4 p hp hb; omega⟩
theorem ln_bpI_end {N : ln_N} (hW : ln_wf N) {R b v : Nat} (hR : R < 2 ^ N 0 0) (hne : R ≠ 2 ^ N 0 0 - 1) (h : ln_bpI N R b v (N 0 0)) : ln_bp N R = b := by
  rcases h with ⟨h1, h2, h3⟩ | ⟨h1, h2, h3, h4, h5⟩
  · obtain ⟨p, hp, hb⟩ := ln_free hR hne
    rw [h3 p hp] at hb
    exact absurd hb (by decide)
  · subst h3
    exact ln_bp_eq hW hR h1 h2 h4 h5
set_option maxHeartbeats 4000000 in
set_option maxRecDepth 100000 in
theorem c_X0_bestPost (l : Launch) (D : va_G) (g : Nat → ClassId) (a : Nat → Nat) (σ : ln_S) (d : Nat) (N : ln_N) (hW : ln_wf N) (hN : ln_nC N σ) (Rr : Nat) (hR : Rr < 2 ^ N 0 0) (hne : Rr ≠ 2 ^ N 0 0 - 1) (hT : ∀ p, p < N 0 0 → Rr.testBit p = false → σ 18 (Rr ||| 2 ^ p) = nI (ln_bt N (Rr ||| 2 ^ p))) (hd : 1 ≤ d) : ln_R l D g (CW a g σ) yX0_bestPost (.code yX0_bestPost cX0_bestPost 5 (some .int)) d [.ref (a 17), .int (nI Rr)] (fun z => z = nI (ln_bp N Rr)) := by
  have hN12 := hW.n12
  have hp12 := hW.p12
  have hs1 := ln_sub1 (N 0 0)
  refine ln_ofR (by decide +kernel) (Nat.le_of_ble_eq_true rfl) (fun prg env rum sta mid args below meth cod ls hr hlk X hP hl => ?_)
  have hl : lv_has ls 5 [(0, .ref (a 17)), (1, .int (nI Rr))] := hl
  generalize hQ0 : (MQ below (vp_Si (fun z => z = nI (ln_bp N Rr))) args sta 0 0 (fun _ => False)) = Q0
  refine lv_iconst (v := nI 0) X.1 X.2.1 dX0_bestPost_0 (by decide) ?_
  refine lv_istore_n (lv' := [(2, .int (nI 0)), (0, .ref (a 17)), (1, .int (nI Rr))]) X.1 X.2.1 dX0_bestPost_1 rfl hl (by decide) rfl (fun ls hl => ?_)
  refine lv_bipush (v := nI 13) X.1 X.2.1 dX0_bestPost_2 (by decide) ?_
  refine lv_istore_n (lv' := [(3, .int (nI 13)), (2, .int (nI 0)), (0, .ref (a 17)), (1, .int (nI Rr))]) X.1 X.2.1 dX0_bestPost_4 rfl hl (by decide) rfl (fun ls hl => ?_)
  refine lv_iconst (v := nI 0) X.1 X.2.1 dX0_bestPost_5 (by decide) ?_
  refine lv_istore (lv' := [(4, .int (nI 0)), (3, .int (nI 13)), (2, .int (nI 0)), (0, .ref (a 17)), (1, .int (nI Rr))]) X.1 X.2.1 dX0_bestPost_6 hl (by decide) rfl (fun ls hl => ?_)
  have L8 : ∀ (K : Nat) (k : Nat) (b : Nat) (v : Nat), N 0 0 - k < K → (k ≤ N 0 0) → (v ≤ 13) → (ln_bpI N Rr b v k) → ∀ ls : Array Slot, lv_has ls 5 [(0, .ref (a 17)), (1, .int (nI Rr)), (2, .int (nI b)), (3, .int (nI v)), (4, .int (nI k))] → W prg l env rum sta mid args below meth cod sta.heap [] 0 0 Q0 (F0 mid 8 ls []) := by
    intro K
    induction K with
    | zero => intro k b v hm; exact absurd hm (Nat.not_lt_zero _)
    | succ K ih8 =>
      intro k b v hm8 hk hv hb ls hl
      refine lv_iload X.1 X.2.1 dX0_bestPost_8 (lv_at hl 4 rfl) ?_
      refine lv_aload_n X.1 X.2.1 dX0_bestPost_10 rfl (lv_at hl 0 rfl) ?_
      refine gC_17_0 X hP mF_X0_15 dX0_bestPost_11 ?_
      refine nC_1_0 X hP (v := nI (N 0 0)) hN.n mF_X0_35 dX0_bestPost_14 ?_
      refine rn_ge X (by omega) (by omega) (tgt := 65) dX0_bestPost_17 (by decide) (fun h17 => ?_) (fun h17 => ?_)
      · skip
        refine lv_iload_n X.1 X.2.1 dX0_bestPost_65 rfl (lv_at hl 2 rfl) ?_
        subst hQ0
        exact ln_retR X hr hlk rfl (by rw [show k = N 0 0 by omega] at hb; rw [ln_bpI_end hW hR hne hb]) dX0_bestPost_66
      · skip
        refine lv_iload_n X.1 X.2.1 dX0_bestPost_20 rfl (lv_at hl 1 rfl) ?_
        refine lv_iload X.1 X.2.1 dX0_bestPost_21 (lv_at hl 4 rfl) ?_
        refine ln_nR X (c_X9_hasPost l D g 0 Rr k (ln_31 (ln_n12 hW hR)) (by omega) (Nat.le_refl _)) ln_nil mM_X0_39 Y_X9_hasPost rfl (by omega) hl.1 rfl (Nat.le_of_ble_eq_true rfl) dX0_bestPost_23 ⟨Nat.zero_le _, Nat.zero_le _⟩ (fun r23 hr23 => ?_)
        subst hr23
        refine rn_neB X (tgt := 59) dX0_bestPost_26 (by decide) (fun h26 => ?_) (fun h26 => ?_)
        · skip
          refine lv_iinc (v := nI (k + 1)) (lv' := [(4, .int (nI (k + 1))), (0, .ref (a 17)), (1, .int (nI Rr)), (2, .int (nI b)), (3, .int (nI v))]) X.1 X.2.1 dX0_bestPost_59 hl (k := 4) rfl rn_inc (by decide) rfl (fun ls hl => ?_)
          refine lv_goto (tgt := 8) X.1 X.2.1 dX0_bestPost_62 (by decide) ?_
          exact ih8 (k + 1) _ _ (by omega) (by omega) (by omega) (by first | exact ln_bpI_skip hb h26 | exact ln_bpI_keep hb hk12 h41 | exact ln_bpI_take hb h26 h41) ls (lv_sub hl [1, 2, 3, 4, 0] rfl)
        · skip
          have hk12 : ln_bt N (Rr ||| 2 ^ k) ≤ 12 := ln_bt12 hW (ln_put_lt hR (by omega))
          refine lv_aload_n X.1 X.2.1 dX0_bestPost_29 rfl (lv_at hl 0 rfl) ?_
          refine gC_17_1 X hP mF_X0_9 dX0_bestPost_30 ?_
          refine lv_iload_n X.1 X.2.1 dX0_bestPost_33 rfl (lv_at hl 1 rfl) ?_
          refine lv_iconst (v := nI 1) X.1 X.2.1 dX0_bestPost_34 (by decide) ?_
          refine lv_iload X.1 X.2.1 dX0_bestPost_35 (lv_at hl 4 rfl) ?_
          refine rn_shl X (by omega) dX0_bestPost_37 ?_
          refine rn_or X dX0_bestPost_38 ?_
          refine lC_18 X hP (ln_n12 hW (ln_put_lt hR (by omega))) (v := nI (ln_bt N (Rr ||| 2 ^ k))) (hT k (by omega) h26) dX0_bestPost_39 ?_
          refine lv_iload_n X.1 X.2.1 dX0_bestPost_40 rfl (lv_at hl 3 rfl) ?_
          refine rn_ge X (by omega) (by omega) (tgt := 59) dX0_bestPost_41 (by decide) (fun h41 => ?_) (fun h41 => ?_)
          · skip
            refine lv_iinc (v := nI (k + 1)) (lv' := [(4, .int (nI (k + 1))), (0, .ref (a 17)), (1, .int (nI Rr)), (2, .int (nI b)), (3, .int (nI v))]) X.1 X.2.1 dX0_bestPost_59 hl (k := 4) rfl rn_inc (by decide) rfl (fun ls hl => ?_)
            refine lv_goto (tgt := 8) X.1 X.2.1 dX0_bestPost_62 (by decide) ?_
            exact ih8 (k + 1) _ _ (by omega) (by omega) (by omega) (by first | exact ln_bpI_skip hb h26 | exact ln_bpI_keep hb hk12 h41 | exact ln_bpI_take hb h26 h41) ls (lv_sub hl [1, 2, 3, 4, 0] rfl)
          · skip
            refine lv_iload X.1 X.2.1 dX0_bestPost_44 (lv_at hl 4 rfl) ?_
            refine lv_istore_n (lv' := [(2, .int (nI k)), (0, .ref (a 17)), (1, .int (nI Rr)), (3, .int (nI v)), (4, .int (nI k))]) X.1 X.2.1 dX0_bestPost_46 rfl hl (by decide) rfl (fun ls hl => ?_)
            refine lv_aload_n X.1 X.2.1 dX0_bestPost_47 rfl (lv_at hl 1 rfl) ?_
            refine gC_17_1 X hP mF_X0_9 dX0_bestPost_48 ?_
            refine lv_iload_n X.1 X.2.1 dX0_bestPost_51 rfl (lv_at hl 2 rfl) ?_
            refine lv_iconst (v := nI 1) X.1 X.2.1 dX0_bestPost_52 (by decide) ?_
            refine lv_iload X.1 X.2.1 dX0_bestPost_53 (lv_at hl 4 rfl) ?_
            refine rn_shl X (by omega) dX0_bestPost_55 ?_
            refine rn_or X dX0_bestPost_56 ?_
            refine lC_18 X hP (ln_n12 hW (ln_put_lt hR (by omega))) (v := nI (ln_bt N (Rr ||| 2 ^ k))) (hT k (by omega) h26) dX0_bestPost_57 ?_
            refine lv_istore_n (lv' := [(3, .int (nI (ln_bt N (Rr ||| 2 ^ k)))), (2, .int (nI k)), (0, .ref (a 17)), (1, .int (nI Rr)), (4, .int (nI k))]) X.1 X.2.1 dX0_bestPost_58 rfl hl (by decide) rfl (fun ls hl => ?_)
            refine lv_iinc (v := nI (k + 1)) (lv' := [(4, .int (nI (k + 1))), (3, .int (nI (ln_bt N (Rr ||| 2 ^ k)))), (2, .int (nI k)), (0, .ref (a 17)), (1, .int (nI Rr))]) X.1 X.2.1 dX0_bestPost_59 hl (k := 4) rfl rn_inc (by decide) rfl (fun ls hl => ?_)
            refine lv_goto (tgt := 8) X.1 X.2.1 dX0_bestPost_62 (by decide) ?_
            exact ih8 (k + 1) _ _ (by omega) (by omega) (by omega) (by first | exact ln_bpI_skip hb h26 | exact ln_bpI_keep hb hk12 h41 | exact ln_bpI_take hb h26 h41) ls (lv_sub hl [3, 4, 2, 1, 0] rfl)
  exact L8 _ 0 0 13 (Nat.lt_succ_self _) (Nat.zero_le _) (Nat.le_refl _) (Or.inl ⟨rfl, rfl, fun p hp => absurd hp (Nat.not_lt_zero p)⟩) ls (lv_sub hl [3, 4, 2, 1, 0] rfl)
set_option maxHeartbeats 4000000 in
set_option maxRecDepth 100000 in
theorem c_X0_renewTicks (l : Launch) (D : va_G) (g : Nat → ClassId) (a : Nat → Nat) (σ : ln_S) (d : Nat) (N : ln_N) (hW : ln_wf N) (hN : ln_nC N σ) (rv bv : Nat) (hV : ln_vs σ rv bv) (hTK : ln_tK N σ rv)  (hd : 2 ≤ d) : ln_V l D g (CW a g) yX0_renewTicks (.code yX0_renewTicks cX0_renewTicks 4 none) d [.ref (a 17)] σ (fun τ => ln_tT N τ ∧ ln_tK N τ rv ∧ ∀ c, c ≠ 17 → c ≠ 18 → τ c = σ c) := by
  have hN12 := hW.n12
  have hp12 := hW.p12
  have hs1 := ln_sub1 (N 0 0)
  obtain ⟨e0, he0, hle, himp⟩ := hTK
  have hrv : rv < 1000000 := by have := hV.2.2.2; omega
  refine ln_ofV (by decide +kernel) (Nat.le_of_ble_eq_true rfl) (fun prg env rum sta mid args below meth cod ls A hr hlk X hA hP hDw hSw hl => ?_)
  have hl : lv_has ls 4 [(0, .ref (a 17))] := hl
  generalize hQ0 : (MQ below (va_Qv (fun τ => ln_tT N τ ∧ ln_tK N τ rv ∧ ∀ c, c ≠ 17 → c ≠ 18 → τ c = σ c) (fun τ t => va_P D ln_cl (CW a g τ) t.heap) A) args sta 0 0 A) = Q0
  obtain ⟨H, hH⟩ : ∃ H, H = sta.heap := ⟨_, rfl⟩
  obtain ⟨locs, hlo⟩ : ∃ x : List Loc, x = [] := ⟨_, rfl⟩
  rw [← hH] at hP
  have hSw : va_S A sta.heap H locs := by rw [hH, hlo]; exact hSw
  have goal : W prg l env rum sta mid args below meth cod H locs 0 0 Q0 (F0 mid 0 ls []) := ?_
  · rw [hH, hlo] at goal; exact goal
  clear hlo
  refine lv_aload_n X.1 X.2.1 dX0_renewTicks_0 rfl (lv_at hl 0 rfl) ?_
  refine gC_17_2 X hP (v := nI e0) he0 mF_X0_43 dX0_renewTicks_1 ?_
  refine lv_aload_n X.1 X.2.1 dX0_renewTicks_4 rfl (lv_at hl 0 rfl) ?_
  refine gC_17_0 X hP mF_X0_15 dX0_renewTicks_5 ?_
  refine nC_1_1 X hP (v := nI rv) hV.1 mF_X0_46 dX0_renewTicks_8 ?_
  refine rn_ne X (by omega) (by omega) (tgt := 15) dX0_renewTicks_11 (by decide) (fun h11 => ?_) (fun h11 => ?_)
  · skip
    refine lv_aload_n X.1 X.2.1 dX0_renewTicks_15 rfl (lv_at hl 0 rfl) ?_
    refine gC_17_0 X hP mF_X0_15 dX0_renewTicks_16 ?_
    refine ln_vR X (c_X4_allPosts l D g a σ 0 N hW hN (Nat.le_refl _)) hP 1 rfl rfl mM_X0_22 Y_X4_allPosts rfl (by omega) hl.1 rfl (Nat.le_of_ble_eq_true rfl) dX0_renewTicks_19 ⟨Nat.zero_le _, Nat.zero_le _⟩ (fun r19 hr19 => ?_)
    subst hr19
    refine lv_istore_n (lv' := [(1, .int (nI (2 ^ N 0 0 - 1))), (0, .ref (a 17))]) X.1 X.2.1 dX0_renewTicks_22 rfl hl (by decide) rfl (fun ls hl => ?_)
    refine lv_aload_n X.1 X.2.1 dX0_renewTicks_23 rfl (lv_at hl 1 rfl) ?_
    refine gC_17_1 X hP mF_X0_9 dX0_renewTicks_24 ?_
    refine lv_iload_n X.1 X.2.1 dX0_renewTicks_27 rfl (lv_at hl 0 rfl) ?_
    refine lv_iconst (v := nI 0) X.1 X.2.1 dX0_renewTicks_28 (by decide) ?_
    refine sC_18 X hP hDw hSw (Nat.lt_of_lt_of_le (ln_all_lt _) hp12) dX0_renewTicks_29 (fun H locs hP hDw hSw => ?_)
    obtain ⟨σ1, hσ1⟩ : ∃ z : ln_S, z = (ln_up σ 18 (upd (σ 18) (2 ^ N 0 0 - 1) (nI 0))) := ⟨_, rfl⟩
    rw [← hσ1] at hP hDw
    refine lv_iload_n X.1 X.2.1 dX0_renewTicks_30 rfl (lv_at hl 0 rfl) ?_
    refine lv_iconst (v := nI 1) X.1 X.2.1 dX0_renewTicks_31 (by decide) ?_
    refine lv_isub X.1 X.2.1 dX0_renewTicks_32 ?_
    refine rn_top (y := (nI (2 ^ N 0 0 - 1) - 1)) rfl ?_
    refine lv_istore_n (lv' := [(2, .int (nI (2 ^ N 0 0 - 1) - 1)), (1, .int (nI (2 ^ N 0 0 - 1))), (0, .ref (a 17))]) X.1 X.2.1 dX0_renewTicks_33 rfl hl (by decide) rfl (fun ls hl => ?_)
    have L34 : ∀ (K : Nat) (k : Nat) (τ : ln_S) (H : Heap) (locs : List Loc), k < K → (k ≤ 2 ^ N 0 0 - 1) → (∀ T, k ≤ T → T < 2 ^ N 0 0 → τ 18 T = nI (ln_bt N T)) → (∀ c, c ≠ 18 → τ c = σ c) → va_P D ln_cl (CW a g τ) H → va_D A (CW a g τ) → va_S A sta.heap H locs → ∀ ls : Array Slot, lv_has ls 4 [(0, .ref (a 17)), (1, .int (nI (2 ^ N 0 0 - 1))), (2, .int (nI k - 1))] → W prg l env rum sta mid args below meth cod H locs 0 0 Q0 (F0 mid 34 ls []) := by
      intro K
      induction K with
      | zero => intro k τ H locs hm; exact absurd hm (Nat.not_lt_zero _)
      | succ K ih34 =>
        intro k τ H locs hm34 hk hT ho hP hDw hSw ls hl
        have hN : ln_nC N τ := hN.of (fun c hc => ho c (by omega))
        refine lv_iload_n X.1 X.2.1 dX0_renewTicks_34 rfl (lv_at hl 2 rfl) ?_
        rcases ln_m1_cases k with ⟨ek, e1⟩ | ⟨j, ek, e1⟩
        · refine rn_top (y := ((-1))) e1 ?_
          refine lv_if_lt (tgt := 84) X.1 X.2.1 dX0_renewTicks_35 (by decide) (fun h35 => ?_) (fun h35 => absurd (by decide) h35)
          have hV : ln_vs τ rv bv := hV.of (ho 1 (by decide))
          subst ek
          refine lv_aload_n X.1 X.2.1 dX0_renewTicks_84 rfl (lv_at hl 0 rfl) ?_
          refine lv_aload_n X.1 X.2.1 dX0_renewTicks_85 rfl (lv_at hl 0 rfl) ?_
          refine gC_17_0 X hP mF_X0_15 dX0_renewTicks_86 ?_
          refine nC_1_1 X hP (v := nI rv) hV.1 mF_X0_46 dX0_renewTicks_89 ?_
          refine pC_17_2 X hP hDw hSw mF_X0_43 dX0_renewTicks_92 (fun H locs hP hDw hSw => ?_)
          obtain ⟨τ2, hτ2⟩ : ∃ z : ln_S, z = (ln_up τ 17 (upd (τ 17) 0 (nI rv))) := ⟨_, rfl⟩
          rw [← hτ2] at hP hDw
          subst hQ0
          exact ln_retV X hr hlk hP hSw (by have hTT : ln_tT N τ2 := (fun T h2 => by rw [hτ2, ln_up_n _ _ (by decide)]; exact hT T (Nat.zero_le _) h2); exact ⟨hTT, ⟨rv, by rw [hτ2, ln_up_s, ln_upd_s], Nat.le_refl _, fun _ => hTT⟩, fun c h1 h2 => by rw [hτ2, ln_up_n _ _ h1]; exact ho c h2⟩) dX0_renewTicks_95
        · refine rn_top (y := nI j) e1 ?_
          subst ek
          rw [nI_pred] at hl
          refine rn_lt0 X (ln_31 (show j < 4096 by omega)) (tgt := 84) dX0_renewTicks_35 (by decide) ?_
          refine lv_aload_n X.1 X.2.1 dX0_renewTicks_38 rfl (lv_at hl 0 rfl) ?_
          refine gC_17_0 X hP mF_X0_15 dX0_renewTicks_39 ?_
          refine lv_iload_n X.1 X.2.1 dX0_renewTicks_42 rfl (lv_at hl 2 rfl) ?_
          refine ln_vR X (c_X4_withBehind l D g a τ 1 N hW hN j (show j < 4096 by omega) (Nat.le_refl _)) hP 1 rfl rfl mM_X0_28 Y_X4_withBehind rfl (by omega) hl.1 rfl (Nat.le_of_ble_eq_true rfl) dX0_renewTicks_43 ⟨Nat.zero_le _, Nat.zero_le _⟩ (fun r43 hr43 => ?_)
          subst hr43
          refine lv_istore_n (lv' := [(3, .int (nI (ln_wb N j))), (0, .ref (a 17)), (1, .int (nI (2 ^ N 0 0 - 1))), (2, .int (nI j))]) X.1 X.2.1 dX0_renewTicks_46 rfl hl (by decide) rfl (fun ls hl => ?_)
          refine lv_aload_n X.1 X.2.1 dX0_renewTicks_47 rfl (lv_at hl 1 rfl) ?_
          refine gC_17_1 X hP mF_X0_9 dX0_renewTicks_48 ?_
          refine lv_iload_n X.1 X.2.1 dX0_renewTicks_51 rfl (lv_at hl 3 rfl) ?_
          refine lv_iload_n X.1 X.2.1 dX0_renewTicks_52 rfl (lv_at hl 0 rfl) ?_
          refine lv_iload_n X.1 X.2.1 dX0_renewTicks_53 rfl (lv_at hl 2 rfl) ?_
          refine rn_ne X (ln_31 (ln_n12 hW (ln_wb_lt hW (show j < 2 ^ N 0 0 by omega)))) (ln_31 (Nat.lt_of_lt_of_le (Nat.sub_lt (ln_pos2 _) (by decide)) hp12)) (tgt := 61) dX0_renewTicks_54 (by decide) (fun h54 => ?_) (fun h54 => ?_)
          · skip
            refine lv_iconst (v := nI 1) X.1 X.2.1 dX0_renewTicks_61 (by decide) ?_
            refine lv_aload_n X.1 X.2.1 dX0_renewTicks_62 rfl (lv_at hl 1 rfl) ?_
            refine gC_17_1 X hP mF_X0_9 dX0_renewTicks_63 ?_
            refine lv_iload_n X.1 X.2.1 dX0_renewTicks_66 rfl (lv_at hl 0 rfl) ?_
            refine lv_iconst (v := nI 1) X.1 X.2.1 dX0_renewTicks_67 (by decide) ?_
            refine lv_aload_n X.1 X.2.1 dX0_renewTicks_68 rfl (lv_at hl 1 rfl) ?_
            refine lv_iload_n X.1 X.2.1 dX0_renewTicks_69 rfl (lv_at hl 0 rfl) ?_
            refine ln_vR X (c_X0_bestPost l D g a τ 1 N hW hN (ln_wb N j) (ln_wb_lt hW (show j < 2 ^ N 0 0 by omega)) h54 (fun p hp hb => hT _ (Nat.lt_of_le_of_lt (ln_sb_le (ln_sb_or j _)) (ln_sb_put hb)) (ln_put_lt (ln_wb_lt hW (show j < 2 ^ N 0 0 by omega)) hp)) (Nat.le_refl _)) hP 17 rfl rfl mM_X0_32 Y_X0_bestPost rfl (by omega) hl.1 rfl (Nat.le_of_ble_eq_true rfl) dX0_renewTicks_70 ⟨Nat.zero_le _, Nat.zero_le _⟩ (fun r70 hr70 => ?_)
            subst hr70
            obtain ⟨hbp1, hbp2, hbp3⟩ := ln_bp_ok hW (ln_wb_lt hW (show j < 2 ^ N 0 0 by omega)) h54
            refine rn_shl X (by omega) dX0_renewTicks_73 ?_
            refine rn_or X dX0_renewTicks_74 ?_
            refine lC_18 X hP (ln_n12 hW (ln_put_lt (ln_wb_lt hW (show j < 2 ^ N 0 0 by omega)) hbp1)) (v := nI (ln_bt N (ln_wb N j ||| 2 ^ ln_bp N (ln_wb N j)))) (hT _ (Nat.lt_of_le_of_lt (ln_sb_le (ln_sb_or j _)) (ln_sb_put hbp2)) (ln_put_lt (ln_wb_lt hW (show j < 2 ^ N 0 0 by omega)) hbp1)) dX0_renewTicks_75 ?_
            refine rn_add X dX0_renewTicks_76 ?_
            refine rn_top (y := nI (ln_bt N j)) (by rw [ln_bt_3 hW (show j < 2 ^ N 0 0 by omega) (by omega) h54]) ?_
            refine sC_18 X hP hDw hSw (by omega) dX0_renewTicks_77 (fun H locs hP hDw hSw => ?_)
            obtain ⟨τ1, hτ1⟩ : ∃ z : ln_S, z = (ln_up τ 18 (upd (τ 18) j (nI (ln_bt N j)))) := ⟨_, rfl⟩
            rw [← hτ1] at hP hDw
            refine lv_iinc (v := (nI j - 1)) (lv' := [(2, .int (nI j - 1)), (3, .int (nI (ln_wb N j))), (0, .ref (a 17)), (1, .int (nI (2 ^ N 0 0 - 1)))]) X.1 X.2.1 dX0_renewTicks_78 hl (k := 3) rfl rn_inn (by decide) rfl (fun ls hl => ?_)
            refine lv_goto (tgt := 34) X.1 X.2.1 dX0_renewTicks_81 (by decide) ?_
            exact ih34 j τ1 H locs (by omega) (by omega) (fun T h1 h2 => by rw [hτ1, ln_up_s]; by_cases e : T = j; (· subst e; exact ln_upd_s); (· rw [ln_upd_n e]; exact hT T (by omega) h2)) (fun c hc => by rw [hτ1, ln_up_n _ _ hc]; exact ho c hc) hP hDw hSw ls (lv_sub hl [2, 3, 0] rfl)
          · skip
            refine lv_iconst (v := nI 1) X.1 X.2.1 dX0_renewTicks_57 (by decide) ?_
            refine rn_top (y := nI (ln_bt N j)) (by rw [ln_bt_1 hW (by omega) (by omega) h54]) ?_
            refine lv_goto (tgt := 77) X.1 X.2.1 dX0_renewTicks_58 (by decide) ?_
            refine sC_18 X hP hDw hSw (by omega) dX0_renewTicks_77 (fun H locs hP hDw hSw => ?_)
            obtain ⟨τ1, hτ1⟩ : ∃ z : ln_S, z = (ln_up τ 18 (upd (τ 18) j (nI (ln_bt N j)))) := ⟨_, rfl⟩
            rw [← hτ1] at hP hDw
            refine lv_iinc (v := (nI j - 1)) (lv' := [(2, .int (nI j - 1)), (3, .int (nI (ln_wb N j))), (0, .ref (a 17)), (1, .int (nI (2 ^ N 0 0 - 1)))]) X.1 X.2.1 dX0_renewTicks_78 hl (k := 3) rfl rn_inn (by decide) rfl (fun ls hl => ?_)
            refine lv_goto (tgt := 34) X.1 X.2.1 dX0_renewTicks_81 (by decide) ?_
            exact ih34 j τ1 H locs (by omega) (by omega) (fun T h1 h2 => by rw [hτ1, ln_up_s]; by_cases e : T = j; (· subst e; exact ln_upd_s); (· rw [ln_upd_n e]; exact hT T (by omega) h2)) (fun c hc => by rw [hτ1, ln_up_n _ _ hc]; exact ho c hc) hP hDw hSw ls (lv_sub hl [2, 3, 0] rfl)
    exact L34 _ (2 ^ N 0 0 - 1) σ1 H locs (Nat.lt_succ_self _) (Nat.le_refl _) (fun T h1 h2 => by rw [show T = 2 ^ N 0 0 - 1 by omega, hσ1, ln_up_s, ln_upd_s, ln_bt_all hW]) (fun c hc => by rw [hσ1, ln_up_n _ _ hc]) hP hDw hSw ls (lv_sub hl [2, 1, 0] rfl)
  · skip
    subst hQ0
    exact ln_retV X hr hlk hP hSw ⟨himp h11, ⟨e0, he0, hle, himp⟩, fun c _ _ => rfl⟩ dX0_renewTicks_14
set_option maxHeartbeats 4000000 in
set_option maxRecDepth 100000 in
theorem c_X0_fewestTicks (l : Launch) (D : va_G) (g : Nat → ClassId) (a : Nat → Nat) (σ : ln_S) (d : Nat) (N : ln_N) (hW : ln_wf N) (hN : ln_nC N σ) (rv bv : Nat) (hV : ln_vs σ rv bv) (hTK : ln_tK N σ rv)  (hd : 3 ≤ d) : ln_U l D g (CW a g) yX0_fewestTicks (.code yX0_fewestTicks cX0_fewestTicks 1 (some .int)) d [.ref (a 17)] σ (fun z τ => z = nI (ln_bt N 0) ∧ ln_tK N τ rv ∧ ∀ c, c ≠ 17 → c ≠ 18 → τ c = σ c) := by
  refine ln_ofU (by decide +kernel) (Nat.le_of_ble_eq_true rfl) (fun prg env rum sta mid args below meth cod ls A hr hlk X hA hP hDw hSw hl => ?_)
  have hl : lv_has ls 1 [(0, .ref (a 17))] := hl
  generalize hQ0 : (MQ below (va_Qi (fun z τ => z = nI (ln_bt N 0) ∧ ln_tK N τ rv ∧ ∀ c, c ≠ 17 → c ≠ 18 → τ c = σ c) (fun τ t => va_P D ln_cl (CW a g τ) t.heap) A) args sta 0 0 A) = Q0
  obtain ⟨H, hH⟩ : ∃ H, H = sta.heap := ⟨_, rfl⟩
  obtain ⟨locs, hlo⟩ : ∃ x : List Loc, x = [] := ⟨_, rfl⟩
  rw [← hH] at hP
  have hSw : va_S A sta.heap H locs := by rw [hH, hlo]; exact hSw
  have goal : W prg l env rum sta mid args below meth cod H locs 0 0 Q0 (F0 mid 0 ls []) := ?_
  · rw [hH, hlo] at goal; exact goal
  clear hlo
  refine lv_aload_n X.1 X.2.1 dX0_fewestTicks_0 rfl (lv_at hl 0 rfl) ?_
  refine ln_vV X (CW_ad a g) hA (c_X0_renewTicks l D g a σ 2 N hW hN rv bv hV hTK (Nat.le_refl _)) hP hDw hSw 17 rfl rfl mM_X0_19 Y_X0_renewTicks rfl (by omega) hl.1 rfl (Nat.le_of_ble_eq_true rfl) dX0_fewestTicks_1 ⟨Nat.zero_le _, Nat.zero_le _⟩ (fun τ1 H locs hr1 hP hDw hSw => ?_)
  obtain ⟨hT, hTK, hfr⟩ := hr1
  have hN : ln_nC N τ1 := hN.of (fun c hc => hfr c (by omega) (by omega))
  refine lv_aload_n X.1 X.2.1 dX0_fewestTicks_4 rfl (lv_at hl 0 rfl) ?_
  refine gC_17_1 X hP mF_X0_9 dX0_fewestTicks_5 ?_
  refine lv_iconst (v := nI 0) X.1 X.2.1 dX0_fewestTicks_8 (by decide) ?_
  refine lC_18 X hP (by decide) (v := nI (ln_bt N 0)) (hT 0 (ln_pos2 _)) dX0_fewestTicks_9 ?_
  subst hQ0
  exact ln_retU X hr hlk hP hSw rfl ⟨rfl, hTK, hfr⟩ dX0_fewestTicks_10
set_option maxHeartbeats 4000000 in
set_option maxRecDepth 100000 in
theorem c_X0_bestHand (l : Launch) (D : va_G) (g : Nat → ClassId) (a : Nat → Nat) (σ : ln_S) (d : Nat) (N : ln_N) (hW : ln_wf N) (hN : ln_nC N σ) (rv bv : Nat) (hV : ln_vs σ rv bv) (hTK : ln_tK N σ rv) (x : Int32) (hd : 3 ≤ d) : ln_U l D g (CW a g) yX0_bestHand (.code yX0_bestHand cX0_bestHand 7 (some .int)) d [.ref (a 17), .int x] σ (fun z τ => z = ln_hl N x 12 0 0 ∧ ln_tK N τ rv ∧ ∀ c, c ≠ 17 → c ≠ 18 → τ c = σ c) := by
  have hN12 := hW.n12
  have hp12 := hW.p12
  have hs1 := ln_sub1 (N 0 0)
  refine ln_ofU (by decide +kernel) (Nat.le_of_ble_eq_true rfl) (fun prg env rum sta mid args below meth cod ls A hr hlk X hA hP hDw hSw hl => ?_)
  have hl : lv_has ls 7 [(0, .ref (a 17)), (1, .int x)] := hl
  generalize hQ0 : (MQ below (va_Qi (fun z τ => z = ln_hl N x 12 0 0 ∧ ln_tK N τ rv ∧ ∀ c, c ≠ 17 → c ≠ 18 → τ c = σ c) (fun τ t => va_P D ln_cl (CW a g τ) t.heap) A) args sta 0 0 A) = Q0
  obtain ⟨H, hH⟩ : ∃ H, H = sta.heap := ⟨_, rfl⟩
  obtain ⟨locs, hlo⟩ : ∃ x : List Loc, x = [] := ⟨_, rfl⟩
  rw [← hH] at hP
  have hSw : va_S A sta.heap H locs := by rw [hH, hlo]; exact hSw
  have goal : W prg l env rum sta mid args below meth cod H locs 0 0 Q0 (F0 mid 0 ls []) := ?_
  · rw [hH, hlo] at goal; exact goal
  clear hlo
  refine lv_aload_n X.1 X.2.1 dX0_bestHand_0 rfl (lv_at hl 0 rfl) ?_
  refine ln_vV X (CW_ad a g) hA (c_X0_renewTicks l D g a σ 2 N hW hN rv bv hV hTK (Nat.le_refl _)) hP hDw hSw 17 rfl rfl mM_X0_19 Y_X0_renewTicks rfl (by omega) hl.1 rfl (Nat.le_of_ble_eq_true rfl) dX0_bestHand_1 ⟨Nat.zero_le _, Nat.zero_le _⟩ (fun τ1 H locs hr1 hP hDw hSw => ?_)
  obtain ⟨hT, hTK, hfr⟩ := hr1
  have hN : ln_nC N τ1 := hN.of (fun c hc => hfr c (by omega) (by omega))
  refine lv_aload_n X.1 X.2.1 dX0_bestHand_4 rfl (lv_at hl 0 rfl) ?_
  refine gC_17_0 X hP mF_X0_15 dX0_bestHand_5 ?_
  refine ln_vR X (c_X4_allPosts l D g a τ1 0 N hW hN (Nat.le_refl _)) hP 1 rfl rfl mM_X0_22 Y_X4_allPosts rfl (by omega) hl.1 rfl (Nat.le_of_ble_eq_true rfl) dX0_bestHand_8 ⟨Nat.zero_le _, Nat.zero_le _⟩ (fun r8 hr8 => ?_)
  subst hr8
  refine lv_istore_n (lv' := [(2, .int (nI (2 ^ N 0 0 - 1))), (0, .ref (a 17)), (1, .int x)]) X.1 X.2.1 dX0_bestHand_11 rfl hl (by decide) rfl (fun ls hl => ?_)
  refine lv_iconst (v := nI 0) X.1 X.2.1 dX0_bestHand_12 (by decide) ?_
  refine lv_istore_n (lv' := [(3, .int (nI 0)), (2, .int (nI (2 ^ N 0 0 - 1))), (0, .ref (a 17)), (1, .int x)]) X.1 X.2.1 dX0_bestHand_13 rfl hl (by decide) rfl (fun ls hl => ?_)
  refine lv_iconst (v := nI 0) X.1 X.2.1 dX0_bestHand_14 (by decide) ?_
  refine lv_istore (lv' := [(4, .int (nI 0)), (3, .int (nI 0)), (2, .int (nI (2 ^ N 0 0 - 1))), (0, .ref (a 17)), (1, .int x)]) X.1 X.2.1 dX0_bestHand_15 hl (by decide) rfl (fun ls hl => ?_)
  have L17 : ∀ (K : Nat) (k : Nat) (on : Nat), 12 - k < K → (k ≤ 12) → (on < 2 ^ N 0 0) → (ln_hl N x (12 - k) k on = ln_hl N x 12 0 0) → ∀ ls : Array Slot, lv_has ls 7 [(0, .ref (a 17)), (1, .int x), (2, .int (nI (2 ^ N 0 0 - 1))), (3, .int (nI on)), (4, .int (nI k))] → W prg l env rum sta mid args below meth cod H locs 0 0 Q0 (F0 mid 17 ls []) := by
    intro K
    induction K with
    | zero => intro k on hm; exact absurd hm (Nat.not_lt_zero _)
    | succ K ih17 =>
      intro k on hm17 hk hon hh ls hl
      refine lv_iload X.1 X.2.1 dX0_bestHand_17 (lv_at hl 4 rfl) ?_
      refine lv_bipush (v := nI 12) X.1 X.2.1 dX0_bestHand_19 (by decide) ?_
      refine rn_ge X (by omega) (by decide) (tgt := 73) dX0_bestHand_21 (by decide) (fun h21 => ?_) (fun h21 => ?_)
      · skip
        refine lv_iconst (v := ((-1))) X.1 X.2.1 dX0_bestHand_73 (by decide) ?_
        subst hQ0
        exact ln_retU X hr hlk hP hSw rfl ⟨by rw [← hh, show 12 - k = 0 by omega]; rfl, hTK, hfr⟩ dX0_bestHand_74
      · skip
        refine lv_aload_n X.1 X.2.1 dX0_bestHand_24 rfl (lv_at hl 0 rfl) ?_
        refine gC_17_0 X hP mF_X0_15 dX0_bestHand_25 ?_
        refine lv_iload_n X.1 X.2.1 dX0_bestHand_28 rfl (lv_at hl 3 rfl) ?_
        refine ln_vR X (c_X4_withBehind l D g a τ1 1 N hW hN on (ln_n12 hW hon) (Nat.le_refl _)) hP 1 rfl rfl mM_X0_28 Y_X4_withBehind rfl (by omega) hl.1 rfl (Nat.le_of_ble_eq_true rfl) dX0_bestHand_29 ⟨Nat.zero_le _, Nat.zero_le _⟩ (fun r29 hr29 => ?_)
        subst hr29
        refine lv_istore (lv' := [(5, .int (nI (ln_wb N on))), (0, .ref (a 17)), (1, .int x), (2, .int (nI (2 ^ N 0 0 - 1))), (3, .int (nI on)), (4, .int (nI k))]) X.1 X.2.1 dX0_bestHand_32 hl (by decide) rfl (fun ls hl => ?_)
        refine lv_iload X.1 X.2.1 dX0_bestHand_34 (lv_at hl 0 rfl) ?_
        refine lv_iload_n X.1 X.2.1 dX0_bestHand_36 rfl (lv_at hl 3 rfl) ?_
        refine rn_ne X (ln_31 (ln_n12 hW (ln_wb_lt hW hon))) (ln_31 (Nat.lt_of_lt_of_le (Nat.sub_lt (ln_pos2 _) (by decide)) hp12)) (tgt := 42) dX0_bestHand_37 (by decide) (fun h37 => ?_) (fun h37 => ?_)
        · skip
          refine lv_aload_n X.1 X.2.1 dX0_bestHand_42 rfl (lv_at hl 1 rfl) ?_
          refine lv_iload X.1 X.2.1 dX0_bestHand_43 (lv_at hl 0 rfl) ?_
          refine ln_vR X (c_X0_bestPost l D g a τ1 1 N hW hN (ln_wb N on) (ln_wb_lt hW hon) h37 (fun p hp hb => hT _ (ln_put_lt (ln_wb_lt hW hon) hp)) (Nat.le_refl _)) hP 17 rfl rfl mM_X0_32 Y_X0_bestPost rfl (by omega) hl.1 rfl (Nat.le_of_ble_eq_true rfl) dX0_bestHand_45 ⟨Nat.zero_le _, Nat.zero_le _⟩ (fun r45 hr45 => ?_)
          subst hr45
          obtain ⟨hbp1, hbp2, hbp3⟩ := ln_bp_ok hW (ln_wb_lt hW hon) h37
          refine lv_istore (lv' := [(6, .int (nI (ln_bp N (ln_wb N on)))), (5, .int (nI (ln_wb N on))), (0, .ref (a 17)), (1, .int x), (2, .int (nI (2 ^ N 0 0 - 1))), (3, .int (nI on)), (4, .int (nI k))]) X.1 X.2.1 dX0_bestHand_48 hl (by decide) rfl (fun ls hl => ?_)
          refine lv_iload X.1 X.2.1 dX0_bestHand_50 (lv_at hl 6 rfl) ?_
          refine lv_iload_n X.1 X.2.1 dX0_bestHand_52 rfl (lv_at hl 3 rfl) ?_
          refine lv_icmp_ne (tgt := 59) X.1 X.2.1 dX0_bestHand_53 (by decide) (fun h53 => ?_) (fun h53 => ?_)
          · skip
            refine lv_iload X.1 X.2.1 dX0_bestHand_59 (lv_at hl 1 rfl) ?_
            refine lv_iconst (v := nI 1) X.1 X.2.1 dX0_bestHand_61 (by decide) ?_
            refine lv_iload X.1 X.2.1 dX0_bestHand_62 (lv_at hl 0 rfl) ?_
            refine rn_shl X (by omega) dX0_bestHand_64 ?_
            refine rn_or X dX0_bestHand_65 ?_
            refine lv_istore_n (lv' := [(3, .int (nI ((ln_wb N on) ||| (2 ^ (ln_bp N (ln_wb N on)))))), (6, .int (nI (ln_bp N (ln_wb N on)))), (5, .int (nI (ln_wb N on))), (0, .ref (a 17)), (1, .int x), (2, .int (nI (2 ^ N 0 0 - 1))), (4, .int (nI k))]) X.1 X.2.1 dX0_bestHand_66 rfl hl (by decide) rfl (fun ls hl => ?_)
            refine lv_iinc (v := nI (k + 1)) (lv' := [(4, .int (nI (k + 1))), (3, .int (nI ((ln_wb N on) ||| (2 ^ (ln_bp N (ln_wb N on)))))), (6, .int (nI (ln_bp N (ln_wb N on)))), (5, .int (nI (ln_wb N on))), (0, .ref (a 17)), (1, .int x), (2, .int (nI (2 ^ N 0 0 - 1)))]) X.1 X.2.1 dX0_bestHand_67 hl (k := 6) rfl rn_inc (by decide) rfl (fun ls hl => ?_)
            refine lv_goto (tgt := 17) X.1 X.2.1 dX0_bestHand_70 (by decide) ?_
            exact ih17 (k + 1) _ (by omega) (by omega) (ln_put_lt (ln_wb_lt hW hon) hbp1) (by rw [← hh, show 12 - k = (12 - (k + 1)) + 1 by omega, ln_hl_c h37 h53]) ls (lv_sub hl [4, 5, 6, 1, 0] rfl)
          · skip
            refine lv_iload X.1 X.2.1 dX0_bestHand_56 (lv_at hl 0 rfl) ?_
            subst hQ0
            exact ln_retU X hr hlk hP hSw rfl ⟨by rw [← hh, show 12 - k = (12 - (k + 1)) + 1 by omega, ln_hl_b h37 h53], hTK, hfr⟩ dX0_bestHand_58
        · skip
          refine lv_iconst (v := ((-1))) X.1 X.2.1 dX0_bestHand_40 (by decide) ?_
          subst hQ0
          exact ln_retU X hr hlk hP hSw rfl ⟨by rw [← hh, ln_hl_a h37], hTK, hfr⟩ dX0_bestHand_41
  exact L17 _ 0 0 (Nat.lt_succ_self _) (Nat.zero_le _) (ln_pos2 _) rfl ls (lv_sub hl [3, 4, 2, 1, 0] rfl)
set_option maxHeartbeats 4000000 in
set_option maxRecDepth 100000 in
theorem c_X0_ticksByHands (l : Launch) (D : va_G) (g : Nat → ClassId) (a : Nat → Nat) (σ : ln_S) (d : Nat) (N : ln_N) (hW : ln_wf N) (hN : ln_nC N σ) (q : Nat) (hq : q < 2 ^ 63) (hd : 2 ≤ d) : ln_R l D g (CW a g σ) yX0_ticksByHands (.code yX0_ticksByHands cX0_ticksByHands 10 (some .int)) d [.ref (a 17), .long (lN q)] (fun z => z = ln_bn N 13 0 0 q) := by
  have hN12 := hW.n12
  have hp12 := hW.p12
  have hs1 := ln_sub1 (N 0 0)
  refine ln_ofR (by decide +kernel) (Nat.le_of_ble_eq_true rfl) (fun prg env rum sta mid args below meth cod ls hr hlk X hP hl => ?_)
  have hl : lv_has ls 10 [(0, .ref (a 17)), (1, .long (lN q))] := hl
  generalize hQ0 : (MQ below (vp_Si (fun z => z = ln_bn N 13 0 0 q)) args sta 0 0 (fun _ => False)) = Q0
  refine lv_aload_n X.1 X.2.1 dX0_ticksByHands_0 rfl (lv_at hl 0 rfl) ?_
  refine gC_17_0 X hP mF_X0_15 dX0_ticksByHands_1 ?_
  refine ln_vR X (c_X4_allPosts l D g a σ 0 N hW hN (Nat.le_refl _)) hP 1 rfl rfl mM_X0_22 Y_X4_allPosts rfl (by omega) hl.1 rfl (Nat.le_of_ble_eq_true rfl) dX0_ticksByHands_4 ⟨Nat.zero_le _, Nat.zero_le _⟩ (fun r4 hr4 => ?_)
  subst hr4
  refine lv_istore_n (lv' := [(3, .int (nI (2 ^ N 0 0 - 1))), (0, .ref (a 17)), (1, .long (lN q))]) X.1 X.2.1 dX0_ticksByHands_7 rfl hl (by decide) rfl (fun ls hl => ?_)
  refine lv_iconst (v := nI 0) X.1 X.2.1 dX0_ticksByHands_8 (by decide) ?_
  refine lv_istore (lv' := [(4, .int (nI 0)), (3, .int (nI (2 ^ N 0 0 - 1))), (0, .ref (a 17)), (1, .long (lN q))]) X.1 X.2.1 dX0_ticksByHands_9 hl (by decide) rfl (fun ls hl => ?_)
  refine lv_lload_n X.1 X.2.1 dX0_ticksByHands_11 rfl (lv_at hl 3 rfl) ?_
  refine lv_lstore (lv' := [(5, .long (lN q)), (4, .int (nI 0)), (3, .int (nI (2 ^ N 0 0 - 1))), (0, .ref (a 17)), (1, .long (lN q))]) X.1 X.2.1 dX0_ticksByHands_12 hl (by decide) rfl (fun ls hl => ?_)
  refine lv_iconst (v := nI 0) X.1 X.2.1 dX0_ticksByHands_14 (by decide) ?_
  refine lv_istore (lv' := [(7, .int (nI 0)), (5, .long (lN q)), (4, .int (nI 0)), (3, .int (nI (2 ^ N 0 0 - 1))), (0, .ref (a 17)), (1, .long (lN q))]) X.1 X.2.1 dX0_ticksByHands_15 hl (by decide) rfl (fun ls hl => ?_)
  have L17 : ∀ (K : Nat) (k : Nat) (on : Nat) (u : Nat), 13 - k < K → (k ≤ 13) → (on < 2 ^ N 0 0) → (u < 2 ^ 63) → (ln_bn N (13 - k) k on u = ln_bn N 13 0 0 q) → ∀ ls : Array Slot, lv_has ls 10 [(0, .ref (a 17)), (3, .int (nI (2 ^ N 0 0 - 1))), (4, .int (nI on)), (5, .long (lN u)), (7, .int (nI k))] → W prg l env rum sta mid args below meth cod sta.heap [] 0 0 Q0 (F0 mid 17 ls []) := by
    intro K
    induction K with
    | zero => intro k on u hm; exact absurd hm (Nat.not_lt_zero _)
    | succ K ih17 =>
      intro k on u hm17 hk hon hu hh ls hl
      refine lv_iload X.1 X.2.1 dX0_ticksByHands_17 (lv_at hl 4 rfl) ?_
      refine lv_bipush (v := nI 12) X.1 X.2.1 dX0_ticksByHands_19 (by decide) ?_
      refine rn_gt X (by omega) (by decide) (tgt := 129) dX0_ticksByHands_21 (by decide) (fun h21 => ?_) (fun h21 => ?_)
      · skip
        refine lv_iconst (v := ((-1))) X.1 X.2.1 dX0_ticksByHands_129 (by decide) ?_
        subst hQ0
        exact ln_retR X hr hlk rfl (by rw [← hh, show 13 - k = 0 by omega]; rfl) dX0_ticksByHands_130
      · skip
        refine lv_iload X.1 X.2.1 dX0_ticksByHands_24 (lv_at hl 2 rfl) ?_
        refine lv_iload_n X.1 X.2.1 dX0_ticksByHands_26 rfl (lv_at hl 1 rfl) ?_
        refine rn_ne X (ln_31 (ln_n12 hW hon)) (ln_31 (Nat.lt_of_lt_of_le (Nat.sub_lt (ln_pos2 _) (by decide)) hp12)) (tgt := 33) dX0_ticksByHands_27 (by decide) (fun h27 => ?_) (fun h27 => ?_)
        · skip
          refine lv_aload_n X.1 X.2.1 dX0_ticksByHands_33 rfl (lv_at hl 0 rfl) ?_
          refine gC_17_0 X hP mF_X0_15 dX0_ticksByHands_34 ?_
          refine lv_iload X.1 X.2.1 dX0_ticksByHands_37 (lv_at hl 2 rfl) ?_
          refine ln_vR X (c_X4_withBehind l D g a σ 1 N hW hN on (ln_n12 hW hon) (Nat.le_refl _)) hP 1 rfl rfl mM_X0_28 Y_X4_withBehind rfl (by omega) hl.1 rfl (Nat.le_of_ble_eq_true rfl) dX0_ticksByHands_39 ⟨Nat.zero_le _, Nat.zero_le _⟩ (fun r39 hr39 => ?_)
          subst hr39
          refine lv_istore (lv' := [(8, .int (nI (ln_wb N on))), (0, .ref (a 17)), (3, .int (nI (2 ^ N 0 0 - 1))), (4, .int (nI on)), (5, .long (lN u)), (7, .int (nI k))]) X.1 X.2.1 dX0_ticksByHands_42 hl (by decide) rfl (fun ls hl => ?_)
          refine lv_iload X.1 X.2.1 dX0_ticksByHands_44 (lv_at hl 0 rfl) ?_
          refine lv_iload_n X.1 X.2.1 dX0_ticksByHands_46 rfl (lv_at hl 2 rfl) ?_
          refine rn_eq X (ln_31 (ln_n12 hW (ln_wb_lt hW hon))) (ln_31 (Nat.lt_of_lt_of_le (Nat.sub_lt (ln_pos2 _) (by decide)) hp12)) (tgt := 110) dX0_ticksByHands_47 (by decide) (fun h47 => ?_) (fun h47 => ?_)
          · skip
            refine lv_iload X.1 X.2.1 dX0_ticksByHands_110 (lv_at hl 0 rfl) ?_
            refine lv_iload X.1 X.2.1 dX0_ticksByHands_112 (lv_at hl 3 rfl) ?_
            refine rn_ne X (ln_31 (ln_n12 hW (ln_wb_lt hW hon))) (ln_31 (ln_n12 hW hon)) (tgt := 119) dX0_ticksByHands_114 (by decide) (fun h114 => ?_) (fun h114 => ?_)
            · skip
              refine lv_iload X.1 X.2.1 dX0_ticksByHands_119 (lv_at hl 0 rfl) ?_
              refine lv_istore (lv' := [(4, .int (nI (ln_wb N on))), (8, .int (nI (ln_wb N on))), (0, .ref (a 17)), (3, .int (nI (2 ^ N 0 0 - 1))), (5, .long (lN u)), (7, .int (nI k))]) X.1 X.2.1 dX0_ticksByHands_121 hl (by decide) rfl (fun ls hl => ?_)
              refine lv_iinc (v := nI (k + 1)) (lv' := [(7, .int (nI (k + 1))), (4, .int (nI (ln_wb N on))), (8, .int (nI (ln_wb N on))), (0, .ref (a 17)), (3, .int (nI (2 ^ N 0 0 - 1))), (5, .long (lN u))]) X.1 X.2.1 dX0_ticksByHands_123 hl (k := 5) rfl rn_inc (by decide) rfl (fun ls hl => ?_)
              refine lv_goto (tgt := 17) X.1 X.2.1 dX0_ticksByHands_126 (by decide) ?_
              exact ih17 (k + 1) _ _ (by omega) (by omega) (by first | exact (ln_wb_lt hW hon) | exact ln_put_lt (ln_wb_lt hW hon) hjn) (by omega) (by rw [← hh, show 13 - k = (13 - (k + 1)) + 1 by omega]; first | rw [ln_bn_e h27 (Or.inl h47) h114] | rw [ln_bn_e h27 (Or.inr hu0) h114] | rw [ln_bn_b h27 h47 hu0 ek hjn h87]) ls (lv_sub hl [3, 4, 1, 5, 0] rfl)
            · skip
              refine lv_iconst (v := ((-1))) X.1 X.2.1 dX0_ticksByHands_117 (by decide) ?_
              subst hQ0
              exact ln_retR X hr hlk rfl (by rw [← hh, show 13 - k = (13 - (k + 1)) + 1 by omega]; first | rw [ln_bn_d h27 (Or.inl h47) h114] | rw [ln_bn_d h27 (Or.inr hu0) h114] | exact absurd h114 (Nat.ne_of_gt (Nat.lt_of_le_of_lt (ln_sb_le (ln_sb_or on _)) (ln_sb_put h87)))) dX0_ticksByHands_118
          · skip
            refine lv_lload X.1 X.2.1 dX0_ticksByHands_50 (lv_at hl 4 rfl) ?_
            refine lv_lconst (v := lN 0) X.1 X.2.1 dX0_ticksByHands_52 (by decide) ?_
            refine rn_lcmp0 X (by omega) dX0_ticksByHands_53 ?_
            refine rn_le0 X (by split <;> decide) (tgt := 110) dX0_ticksByHands_54 (by decide) (fun h54 => ?_) (fun h54 => ?_)
            · skip
              have hu0 : u = 0 := ln_ite0 h54
              refine lv_iload X.1 X.2.1 dX0_ticksByHands_110 (lv_at hl 0 rfl) ?_
              refine lv_iload X.1 X.2.1 dX0_ticksByHands_112 (lv_at hl 3 rfl) ?_
              refine rn_ne X (ln_31 (ln_n12 hW (ln_wb_lt hW hon))) (ln_31 (ln_n12 hW hon)) (tgt := 119) dX0_ticksByHands_114 (by decide) (fun h114 => ?_) (fun h114 => ?_)
              · skip
                refine lv_iload X.1 X.2.1 dX0_ticksByHands_119 (lv_at hl 0 rfl) ?_
                refine lv_istore (lv' := [(4, .int (nI (ln_wb N on))), (8, .int (nI (ln_wb N on))), (0, .ref (a 17)), (3, .int (nI (2 ^ N 0 0 - 1))), (5, .long (lN u)), (7, .int (nI k))]) X.1 X.2.1 dX0_ticksByHands_121 hl (by decide) rfl (fun ls hl => ?_)
                refine lv_iinc (v := nI (k + 1)) (lv' := [(7, .int (nI (k + 1))), (4, .int (nI (ln_wb N on))), (8, .int (nI (ln_wb N on))), (0, .ref (a 17)), (3, .int (nI (2 ^ N 0 0 - 1))), (5, .long (lN u))]) X.1 X.2.1 dX0_ticksByHands_123 hl (k := 5) rfl rn_inc (by decide) rfl (fun ls hl => ?_)
                refine lv_goto (tgt := 17) X.1 X.2.1 dX0_ticksByHands_126 (by decide) ?_
                exact ih17 (k + 1) _ _ (by omega) (by omega) (by first | exact (ln_wb_lt hW hon) | exact ln_put_lt (ln_wb_lt hW hon) hjn) (by omega) (by rw [← hh, show 13 - k = (13 - (k + 1)) + 1 by omega]; first | rw [ln_bn_e h27 (Or.inl h47) h114] | rw [ln_bn_e h27 (Or.inr hu0) h114] | rw [ln_bn_b h27 h47 hu0 ek hjn h87]) ls (lv_sub hl [3, 4, 1, 5, 0] rfl)
              · skip
                refine lv_iconst (v := ((-1))) X.1 X.2.1 dX0_ticksByHands_117 (by decide) ?_
                subst hQ0
                exact ln_retR X hr hlk rfl (by rw [← hh, show 13 - k = (13 - (k + 1)) + 1 by omega]; first | rw [ln_bn_d h27 (Or.inl h47) h114] | rw [ln_bn_d h27 (Or.inr hu0) h114] | exact absurd h114 (Nat.ne_of_gt (Nat.lt_of_le_of_lt (ln_sb_le (ln_sb_or on _)) (ln_sb_put h87)))) dX0_ticksByHands_118
            · skip
              have hu0 : u ≠ 0 := ln_ite1 h54
              refine lv_lload X.1 X.2.1 dX0_ticksByHands_57 (lv_at hl 4 rfl) ?_
              refine lv_ldc2 X.1 X.2.1 X.2.2.2.1 (X.ts args mK_X0_49 rfl) dX0_ticksByHands_59 ?_
              refine rn_lrem X (by omega) dX0_ticksByHands_62 ?_
              refine rn_l2i X dX0_ticksByHands_63 ?_
              refine lv_iconst (v := nI 1) X.1 X.2.1 dX0_ticksByHands_64 (by decide) ?_
              refine lv_isub X.1 X.2.1 dX0_ticksByHands_65 ?_
              rcases ln_m1_cases (u % 13) with ⟨ek, e1⟩ | ⟨j, ek, e1⟩
              · refine rn_top (y := ((-1))) e1 ?_
                refine lv_istore (lv' := [(9, .int ((-1))), (8, .int (nI (ln_wb N on))), (0, .ref (a 17)), (3, .int (nI (2 ^ N 0 0 - 1))), (4, .int (nI on)), (5, .long (lN u)), (7, .int (nI k))]) X.1 X.2.1 dX0_ticksByHands_66 hl (by decide) rfl (fun ls hl => ?_)
                refine lv_aload_n X.1 X.2.1 dX0_ticksByHands_68 rfl (lv_at hl 2 rfl) ?_
                refine gC_17_0 X hP mF_X0_15 dX0_ticksByHands_69 ?_
                refine lv_iload X.1 X.2.1 dX0_ticksByHands_72 (lv_at hl 0 rfl) ?_
                refine ln_vR X (c_X4_isPost l D g a σ 0 N hW hN (((-1))) (Nat.le_refl _)) hP 1 rfl rfl mM_X0_51 Y_X4_isPost rfl (by omega) hl.1 rfl (Nat.le_of_ble_eq_true rfl) dX0_ticksByHands_74 ⟨Nat.zero_le _, Nat.zero_le _⟩ (fun r74 hr74 => ?_)
                subst hr74
                refine rn_eqB X (tgt := 90) dX0_ticksByHands_77 (by decide) (fun h77 => ?_) (fun h77 => absurd h77 (by rw [ln_inr_lt (by decide)]; decide))
                refine lv_bipush (v := ((-2))) X.1 X.2.1 dX0_ticksByHands_90 (by decide) ?_
                subst hQ0
                exact ln_retR X hr hlk rfl (by rw [← hh, show 13 - k = (13 - (k + 1)) + 1 by omega, ln_bn_c h27 h47 hu0 (fun z => by first | omega | (rw [ln_inr_nI (by omega)] at h77; have := of_decide_eq_false h77; omega) | (rw [ek] at z; have z3 := z.2.2; rw [Nat.add_sub_cancel, h87] at z3; exact absurd z3 (by decide)))]) dX0_ticksByHands_92
              · refine rn_top (y := nI j) e1 ?_
                refine lv_istore (lv' := [(9, .int (nI j)), (8, .int (nI (ln_wb N on))), (0, .ref (a 17)), (3, .int (nI (2 ^ N 0 0 - 1))), (4, .int (nI on)), (5, .long (lN u)), (7, .int (nI k))]) X.1 X.2.1 dX0_ticksByHands_66 hl (by decide) rfl (fun ls hl => ?_)
                refine lv_aload_n X.1 X.2.1 dX0_ticksByHands_68 rfl (lv_at hl 2 rfl) ?_
                refine gC_17_0 X hP mF_X0_15 dX0_ticksByHands_69 ?_
                refine lv_iload X.1 X.2.1 dX0_ticksByHands_72 (lv_at hl 0 rfl) ?_
                refine ln_vR X (c_X4_isPost l D g a σ 0 N hW hN (nI j) (Nat.le_refl _)) hP 1 rfl rfl mM_X0_51 Y_X4_isPost rfl (by omega) hl.1 rfl (Nat.le_of_ble_eq_true rfl) dX0_ticksByHands_74 ⟨Nat.zero_le _, Nat.zero_le _⟩ (fun r74 hr74 => ?_)
                subst hr74
                refine rn_eqB X (tgt := 90) dX0_ticksByHands_77 (by decide) (fun h77 => ?_) (fun h77 => ?_)
                · skip
                  refine lv_bipush (v := ((-2))) X.1 X.2.1 dX0_ticksByHands_90 (by decide) ?_
                  subst hQ0
                  exact ln_retR X hr hlk rfl (by rw [← hh, show 13 - k = (13 - (k + 1)) + 1 by omega, ln_bn_c h27 h47 hu0 (fun z => by first | omega | (rw [ln_inr_nI (by omega)] at h77; have := of_decide_eq_false h77; omega) | (rw [ek] at z; have z3 := z.2.2; rw [Nat.add_sub_cancel, h87] at z3; exact absurd z3 (by decide)))]) dX0_ticksByHands_92
                · skip
                  have hjn : j < N 0 0 := by rw [ln_inr_nI (by omega)] at h77; exact of_decide_eq_true h77
                  refine lv_iload X.1 X.2.1 dX0_ticksByHands_80 (lv_at hl 1 rfl) ?_
                  refine lv_iload X.1 X.2.1 dX0_ticksByHands_82 (lv_at hl 0 rfl) ?_
                  refine ln_nR X (c_X9_hasPost l D g 0 (ln_wb N on) j (ln_31 (ln_n12 hW (ln_wb_lt hW hon))) (by omega) (Nat.le_refl _)) ln_nil mM_X0_39 Y_X9_hasPost rfl (by omega) hl.1 rfl (Nat.le_of_ble_eq_true rfl) dX0_ticksByHands_84 ⟨Nat.zero_le _, Nat.zero_le _⟩ (fun r84 hr84 => ?_)
                  subst hr84
                  refine rn_eqB X (tgt := 93) dX0_ticksByHands_87 (by decide) (fun h87 => ?_) (fun h87 => ?_)
                  · skip
                    refine lv_iload X.1 X.2.1 dX0_ticksByHands_93 (lv_at hl 1 rfl) ?_
                    refine lv_iconst (v := nI 1) X.1 X.2.1 dX0_ticksByHands_95 (by decide) ?_
                    refine lv_iload X.1 X.2.1 dX0_ticksByHands_96 (lv_at hl 0 rfl) ?_
                    refine rn_shl X (by omega) dX0_ticksByHands_98 ?_
                    refine rn_or X dX0_ticksByHands_99 ?_
                    refine lv_istore (lv' := [(8, .int (nI ((ln_wb N on) ||| (2 ^ j)))), (9, .int (nI j)), (0, .ref (a 17)), (3, .int (nI (2 ^ N 0 0 - 1))), (4, .int (nI on)), (5, .long (lN u)), (7, .int (nI k))]) X.1 X.2.1 dX0_ticksByHands_100 hl (by decide) rfl (fun ls hl => ?_)
                    refine lv_lload X.1 X.2.1 dX0_ticksByHands_102 (lv_at hl 5 rfl) ?_
                    refine lv_ldc2 X.1 X.2.1 X.2.2.2.1 (X.ts args mK_X0_49 rfl) dX0_ticksByHands_104 ?_
                    refine rn_ldiv X (by omega) dX0_ticksByHands_107 ?_
                    refine lv_lstore (lv' := [(5, .long (lN (u / 13))), (8, .int (nI ((ln_wb N on) ||| (2 ^ j)))), (9, .int (nI j)), (0, .ref (a 17)), (3, .int (nI (2 ^ N 0 0 - 1))), (4, .int (nI on)), (7, .int (nI k))]) X.1 X.2.1 dX0_ticksByHands_108 hl (by decide) rfl (fun ls hl => ?_)
                    refine lv_iload X.1 X.2.1 dX0_ticksByHands_110 (lv_at hl 1 rfl) ?_
                    refine lv_iload X.1 X.2.1 dX0_ticksByHands_112 (lv_at hl 5 rfl) ?_
                    refine rn_ne X (ln_31 (ln_or12 (ln_n12 hW (ln_wb_lt hW hon)) (ln_p12 (by omega)))) (ln_31 (ln_n12 hW hon)) (tgt := 119) dX0_ticksByHands_114 (by decide) (fun h114 => ?_) (fun h114 => ?_)
                    · skip
                      refine lv_iload X.1 X.2.1 dX0_ticksByHands_119 (lv_at hl 1 rfl) ?_
                      refine lv_istore (lv' := [(4, .int (nI ((ln_wb N on) ||| (2 ^ j)))), (5, .long (lN (u / 13))), (8, .int (nI ((ln_wb N on) ||| (2 ^ j)))), (9, .int (nI j)), (0, .ref (a 17)), (3, .int (nI (2 ^ N 0 0 - 1))), (7, .int (nI k))]) X.1 X.2.1 dX0_ticksByHands_121 hl (by decide) rfl (fun ls hl => ?_)
                      refine lv_iinc (v := nI (k + 1)) (lv' := [(7, .int (nI (k + 1))), (4, .int (nI ((ln_wb N on) ||| (2 ^ j)))), (5, .long (lN (u / 13))), (8, .int (nI ((ln_wb N on) ||| (2 ^ j)))), (9, .int (nI j)), (0, .ref (a 17)), (3, .int (nI (2 ^ N 0 0 - 1)))]) X.1 X.2.1 dX0_ticksByHands_123 hl (k := 6) rfl rn_inc (by decide) rfl (fun ls hl => ?_)
                      refine lv_goto (tgt := 17) X.1 X.2.1 dX0_ticksByHands_126 (by decide) ?_
                      exact ih17 (k + 1) _ _ (by omega) (by omega) (by first | exact (ln_wb_lt hW hon) | exact ln_put_lt (ln_wb_lt hW hon) hjn) (by omega) (by rw [← hh, show 13 - k = (13 - (k + 1)) + 1 by omega]; first | rw [ln_bn_e h27 (Or.inl h47) h114] | rw [ln_bn_e h27 (Or.inr hu0) h114] | rw [ln_bn_b h27 h47 hu0 ek hjn h87]) ls (lv_sub hl [5, 6, 1, 2, 0] rfl)
                    · skip
                      refine lv_iconst (v := ((-1))) X.1 X.2.1 dX0_ticksByHands_117 (by decide) ?_
                      subst hQ0
                      exact ln_retR X hr hlk rfl (by rw [← hh, show 13 - k = (13 - (k + 1)) + 1 by omega]; first | rw [ln_bn_d h27 (Or.inl h47) h114] | rw [ln_bn_d h27 (Or.inr hu0) h114] | exact absurd h114 (Nat.ne_of_gt (Nat.lt_of_le_of_lt (ln_sb_le (ln_sb_or on _)) (ln_sb_put h87)))) dX0_ticksByHands_118
                  · skip
                    refine lv_bipush (v := ((-2))) X.1 X.2.1 dX0_ticksByHands_90 (by decide) ?_
                    subst hQ0
                    exact ln_retR X hr hlk rfl (by rw [← hh, show 13 - k = (13 - (k + 1)) + 1 by omega, ln_bn_c h27 h47 hu0 (fun z => by first | omega | (rw [ln_inr_nI (by omega)] at h77; have := of_decide_eq_false h77; omega) | (rw [ek] at z; have z3 := z.2.2; rw [Nat.add_sub_cancel, h87] at z3; exact absurd z3 (by decide)))]) dX0_ticksByHands_92
        · skip
          refine lv_iload X.1 X.2.1 dX0_ticksByHands_30 (lv_at hl 4 rfl) ?_
          subst hQ0
          exact ln_retR X hr hlk rfl (by rw [← hh, show 13 - k = (13 - (k + 1)) + 1 by omega, ln_bn_a h27]) dX0_ticksByHands_32
  exact L17 _ 0 0 q (Nat.lt_succ_self _) (Nat.zero_le _) (ln_pos2 _) hq rfl ls (lv_sub hl [4, 3, 2, 1, 0] rfl)
