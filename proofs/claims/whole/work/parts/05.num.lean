/-! numbers: the machine's ints as naturals -/
def ln_b (b : Bool) : Int32 := if b then 1 else 0
/-- a without b, as sets -/
def ln_df (a b : Nat) : Nat := a ^^^ (a &&& b)
theorem ln_df_bit (a b i : Nat) : (ln_df a b).testBit i = (a.testBit i && !b.testBit i) := by
  unfold ln_df
  rw [Nat.testBit_xor, Nat.testBit_and]
  cases a.testBit i <;> cases b.testBit i <;> rfl
theorem ln_and (a b : Nat) : nI a &&& nI b = nI (a &&& b) := by
  apply Int32.toBitVec_inj.1
  show BitVec.ofNat 32 a &&& BitVec.ofNat 32 b = BitVec.ofNat 32 (a &&& b)
  apply BitVec.eq_of_getLsbD_eq
  intro i hi
  simp [hi]
theorem ln_or (a b : Nat) : nI a ||| nI b = nI (a ||| b) := by
  apply Int32.toBitVec_inj.1
  show BitVec.ofNat 32 a ||| BitVec.ofNat 32 b = BitVec.ofNat 32 (a ||| b)
  apply BitVec.eq_of_getLsbD_eq
  intro i hi
  simp [hi]
theorem ln_nt (a b : Nat) : nI a &&& (nI b ^^^ (-1)) = nI (ln_df a b) := by
  apply Int32.toBitVec_inj.1
  show BitVec.ofNat 32 a &&& (BitVec.ofNat 32 b ^^^ BitVec.allOnes 32) = BitVec.ofNat 32 (ln_df a b)
  apply BitVec.eq_of_getLsbD_eq
  intro i hi
  rw [BitVec.getLsbD_and, BitVec.getLsbD_xor, BitVec.getLsbD_allOnes, BitVec.getLsbD_ofNat, BitVec.getLsbD_ofNat, BitVec.getLsbD_ofNat, ln_df_bit]
  simp [hi]
theorem ln_sl : ∀ n, n < 31 → (1 : Int32) <<< (nI n &&& 31) = nI (2 ^ n) := by decide +kernel
theorem ln_sm : ∀ n, n < 32 → ((nI n &&& 31).toBitVec.smod 32).toNat = n := by decide +kernel
theorem ln_sr {a n : Nat} (ha : a < 2 ^ 31) (hn : n < 32) : nI a >>> (nI n &&& 31) = nI (a >>> n) := by
  rw [pk_shrN ha _ n (ln_sm n hn), Nat.shiftRight_eq_div_pow]
theorem ln_and_lt {a b N : Nat} (ha : a < N) : a &&& b < N := Nat.lt_of_le_of_lt Nat.and_le_left ha
theorem ln_df_le (a b : Nat) : ln_df a b ≤ a := by
  apply Nat.le_of_testBit
  intro i
  rw [ln_df_bit]
  cases a.testBit i <;> simp
theorem ln_df_lt {a b N : Nat} (ha : a < N) : ln_df a b < N := Nat.lt_of_le_of_lt (ln_df_le a b) ha
theorem ln_or_lt {a b : Nat} (k : Nat) (ha : a < 2 ^ k) (hb : b < 2 ^ k) : a ||| b < 2 ^ k := Nat.or_lt_two_pow ha hb
theorem ln_dec {s : Nat} : nI s &&& (nI s - 1) = nI (s &&& (s - 1)) := by
  cases s with
  | zero => decide
  | succ k => rw [nI_pred, ln_and]; rfl
theorem ln_shr_and (a n : Nat) : (a >>> n) &&& 1 = if a.testBit n then 1 else 0 := by
  rw [Nat.testBit, Nat.and_comm 1]
  have h : (a >>> n) &&& 1 = (a >>> n) % 2 := Nat.and_one_is_mod _
  rw [h]
  rcases Nat.mod_two_eq_zero_or_one (a >>> n) with q | q <;> rw [q] <;> rfl
theorem ln_nb (b : Bool) : nI (if b then 1 else 0) = ln_b b := by cases b <;> rfl
theorem ln_b_in (b : Bool) : ln_b b = nI (if b then 1 else 0) := by cases b <;> rfl
theorem ln_b_nar (b : Bool) : narrow .boolean (.int (ln_b b)) = .int (ln_b b) := by cases b <;> rfl
theorem ln_b_zar (b : Bool) : vp_nar .boolean (ln_b b) = ln_b b := by cases b <;> rfl
theorem ln_b_bar (b : Bool) : vp_nar .byte (ln_b b) = ln_b b := by cases b <;> rfl
section LNB
variable {p : Program} {l : Launch} {e : Env} {R : Room} {s : State} {m : MethodId} {args : Array Value} {below : List Frame} {meth : Method} {c : Code} {H : Heap} {locs : List Loc} {cells slots : Nat} {Q : State → Prop}
variable {cc : ByteArray} {nL : Nat} {own : String} {D : va_G} {g : Nat → ClassId} {d : Nat} {pc : Nat} {ls : Array Slot} {rest : List Value}
theorem rn_add (X : ln_X p R s m c cc nL own D g d) {a b : Nat} (hdg : decode cc pc = .ok (.iadd, 1)) (kk : W p l e R s m args below meth c H locs cells slots Q (F0 m (pc + 1) ls (.int (nI (a + b)) :: rest))) : W p l e R s m args below meth c H locs cells slots Q (F0 m pc ls (.int (nI b) :: .int (nI a) :: rest)) :=
  lv_iadd X.1 X.2.1 hdg (by rw [nI_add]; exact kk)
theorem rn_sub (X : ln_X p R s m c cc nL own D g d) {a b : Nat} (h : b ≤ a) (hdg : decode cc pc = .ok (.isub, 1)) (kk : W p l e R s m args below meth c H locs cells slots Q (F0 m (pc + 1) ls (.int (nI (a - b)) :: rest))) : W p l e R s m args below meth c H locs cells slots Q (F0 m pc ls (.int (nI b) :: .int (nI a) :: rest)) :=
  lv_isub X.1 X.2.1 hdg (by rw [pk_sub h]; exact kk)
theorem rn_mul (X : ln_X p R s m c cc nL own D g d) {a b : Nat} (hdg : decode cc pc = .ok (.imul, 1)) (kk : W p l e R s m args below meth c H locs cells slots Q (F0 m (pc + 1) ls (.int (nI (a * b)) :: rest))) : W p l e R s m args below meth c H locs cells slots Q (F0 m pc ls (.int (nI b) :: .int (nI a) :: rest)) :=
  lv_imul X.1 X.2.1 hdg (by rw [pk_mul]; exact kk)
theorem rn_and (X : ln_X p R s m c cc nL own D g d) {a b : Nat} (hdg : decode cc pc = .ok (.iand, 1)) (kk : W p l e R s m args below meth c H locs cells slots Q (F0 m (pc + 1) ls (.int (nI (a &&& b)) :: rest))) : W p l e R s m args below meth c H locs cells slots Q (F0 m pc ls (.int (nI b) :: .int (nI a) :: rest)) :=
  lv_iand X.1 X.2.1 hdg (by rw [ln_and]; exact kk)
theorem rn_or (X : ln_X p R s m c cc nL own D g d) {a b : Nat} (hdg : decode cc pc = .ok (.ior, 1)) (kk : W p l e R s m args below meth c H locs cells slots Q (F0 m (pc + 1) ls (.int (nI (a ||| b)) :: rest))) : W p l e R s m args below meth c H locs cells slots Q (F0 m pc ls (.int (nI b) :: .int (nI a) :: rest)) :=
  lv_ior X.1 X.2.1 hdg (by rw [ln_or]; exact kk)
theorem rn_nt (X : ln_X p R s m c cc nL own D g d) {a b : Nat} (hdg : decode cc pc = .ok (.iand, 1)) (kk : W p l e R s m args below meth c H locs cells slots Q (F0 m (pc + 1) ls (.int (nI (ln_df a b)) :: rest))) : W p l e R s m args below meth c H locs cells slots Q (F0 m pc ls (.int (nI b ^^^ (-1)) :: .int (nI a) :: rest)) :=
  lv_iand X.1 X.2.1 hdg (by rw [ln_nt]; exact kk)
theorem rn_dec (X : ln_X p R s m c cc nL own D g d) {a : Nat} (hdg : decode cc pc = .ok (.iand, 1)) (kk : W p l e R s m args below meth c H locs cells slots Q (F0 m (pc + 1) ls (.int (nI (a &&& (a - 1))) :: rest))) : W p l e R s m args below meth c H locs cells slots Q (F0 m pc ls (.int (nI a - nI 1) :: .int (nI a) :: rest)) :=
  lv_iand X.1 X.2.1 hdg (by rw [show nI 1 = 1 from rfl, ln_dec]; exact kk)
theorem rn_shl (X : ln_X p R s m c cc nL own D g d) {b : Nat} (h : b < 31) (hdg : decode cc pc = .ok (.ishl, 1)) (kk : W p l e R s m args below meth c H locs cells slots Q (F0 m (pc + 1) ls (.int (nI (2 ^ b)) :: rest))) : W p l e R s m args below meth c H locs cells slots Q (F0 m pc ls (.int (nI b) :: .int (nI 1) :: rest)) :=
  lv_ishl X.1 X.2.1 hdg (by rw [show nI 1 = 1 from rfl, ln_sl b h]; exact kk)
theorem rn_shr (X : ln_X p R s m c cc nL own D g d) {a b : Nat} (ha : a < 2 ^ 31) (h : b < 32) (hdg : decode cc pc = .ok (.ishr, 1)) (kk : W p l e R s m args below meth c H locs cells slots Q (F0 m (pc + 1) ls (.int (nI (a >>> b)) :: rest))) : W p l e R s m args below meth c H locs cells slots Q (F0 m pc ls (.int (nI b) :: .int (nI a) :: rest)) :=
  lv_ishr X.1 X.2.1 hdg (by rw [ln_sr ha h]; exact kk)
theorem rn_ge (X : ln_X p R s m c cc nL own D g d) {a b : Nat} {off : Int} {tgt : Nat} (ha : a < 2 ^ 31) (hb : b < 2 ^ 31) (hdg : decode cc pc = .ok (.if_icmp .ge off, 3)) (ht : (pc : Int) + off = (tgt : Int))
    (kt : b ≤ a → W p l e R s m args below meth c H locs cells slots Q (F0 m tgt ls rest)) (kf : a < b → W p l e R s m args below meth c H locs cells slots Q (F0 m (pc + 3) ls rest)) : W p l e R s m args below meth c H locs cells slots Q (F0 m pc ls (.int (nI b) :: .int (nI a) :: rest)) :=
  lv_icmp_ge X.1 X.2.1 hdg ht (fun h => kt ((nI_leI hb ha).mp h)) (fun h => kf (Nat.lt_of_not_le (fun q => h ((nI_leI hb ha).mpr q))))
theorem rn_le (X : ln_X p R s m c cc nL own D g d) {a b : Nat} {off : Int} {tgt : Nat} (ha : a < 2 ^ 31) (hb : b < 2 ^ 31) (hdg : decode cc pc = .ok (.if_icmp .le off, 3)) (ht : (pc : Int) + off = (tgt : Int))
    (kt : a ≤ b → W p l e R s m args below meth c H locs cells slots Q (F0 m tgt ls rest)) (kf : b < a → W p l e R s m args below meth c H locs cells slots Q (F0 m (pc + 3) ls rest)) : W p l e R s m args below meth c H locs cells slots Q (F0 m pc ls (.int (nI b) :: .int (nI a) :: rest)) :=
  lv_icmp_le X.1 X.2.1 hdg ht (fun h => kt ((nI_leI ha hb).mp h)) (fun h => kf (Nat.lt_of_not_le (fun q => h ((nI_leI ha hb).mpr q))))
theorem rn_lt (X : ln_X p R s m c cc nL own D g d) {a b : Nat} {off : Int} {tgt : Nat} (ha : a < 2 ^ 31) (hb : b < 2 ^ 31) (hdg : decode cc pc = .ok (.if_icmp .lt off, 3)) (ht : (pc : Int) + off = (tgt : Int))
    (kt : a < b → W p l e R s m args below meth c H locs cells slots Q (F0 m tgt ls rest)) (kf : b ≤ a → W p l e R s m args below meth c H locs cells slots Q (F0 m (pc + 3) ls rest)) : W p l e R s m args below meth c H locs cells slots Q (F0 m pc ls (.int (nI b) :: .int (nI a) :: rest)) :=
  lv_icmp_lt X.1 X.2.1 hdg ht (fun h => kt ((nI_ltI ha hb).mp h)) (fun h => kf (Nat.le_of_not_lt (fun q => h ((nI_ltI ha hb).mpr q))))
theorem rn_gt (X : ln_X p R s m c cc nL own D g d) {a b : Nat} {off : Int} {tgt : Nat} (ha : a < 2 ^ 31) (hb : b < 2 ^ 31) (hdg : decode cc pc = .ok (.if_icmp .gt off, 3)) (ht : (pc : Int) + off = (tgt : Int))
    (kt : b < a → W p l e R s m args below meth c H locs cells slots Q (F0 m tgt ls rest)) (kf : a ≤ b → W p l e R s m args below meth c H locs cells slots Q (F0 m (pc + 3) ls rest)) : W p l e R s m args below meth c H locs cells slots Q (F0 m pc ls (.int (nI b) :: .int (nI a) :: rest)) :=
  lv_icmp_gt X.1 X.2.1 hdg ht (fun h => kt ((nI_ltI hb ha).mp h)) (fun h => kf (Nat.le_of_not_lt (fun q => h ((nI_ltI hb ha).mpr q))))
theorem rn_eq (X : ln_X p R s m c cc nL own D g d) {a b : Nat} {off : Int} {tgt : Nat} (ha : a < 2 ^ 31) (hb : b < 2 ^ 31) (hdg : decode cc pc = .ok (.if_icmp .eq off, 3)) (ht : (pc : Int) + off = (tgt : Int))
    (kt : a = b → W p l e R s m args below meth c H locs cells slots Q (F0 m tgt ls rest)) (kf : a ≠ b → W p l e R s m args below meth c H locs cells slots Q (F0 m (pc + 3) ls rest)) : W p l e R s m args below meth c H locs cells slots Q (F0 m pc ls (.int (nI b) :: .int (nI a) :: rest)) :=
  lv_icmp_eq X.1 X.2.1 hdg ht (fun h => kt ((nI_eq ha hb).mp h)) (fun h => kf (fun q => h ((nI_eq ha hb).mpr q)))
theorem rn_ne (X : ln_X p R s m c cc nL own D g d) {a b : Nat} {off : Int} {tgt : Nat} (ha : a < 2 ^ 31) (hb : b < 2 ^ 31) (hdg : decode cc pc = .ok (.if_icmp .ne off, 3)) (ht : (pc : Int) + off = (tgt : Int))
    (kt : a ≠ b → W p l e R s m args below meth c H locs cells slots Q (F0 m tgt ls rest)) (kf : a = b → W p l e R s m args below meth c H locs cells slots Q (F0 m (pc + 3) ls rest)) : W p l e R s m args below meth c H locs cells slots Q (F0 m pc ls (.int (nI b) :: .int (nI a) :: rest)) :=
  lv_icmp_ne X.1 X.2.1 hdg ht (fun h => kt (fun q => h ((nI_eq ha hb).mpr q))) (fun h => kf ((nI_eq ha hb).mp h))
theorem rn_eq0 (X : ln_X p R s m c cc nL own D g d) {a : Nat} {off : Int} {tgt : Nat} (ha : a < 2 ^ 31) (hdg : decode cc pc = .ok (.ifCond .eq off, 3)) (ht : (pc : Int) + off = (tgt : Int))
    (kt : a = 0 → W p l e R s m args below meth c H locs cells slots Q (F0 m tgt ls rest)) (kf : a ≠ 0 → W p l e R s m args below meth c H locs cells slots Q (F0 m (pc + 3) ls rest)) : W p l e R s m args below meth c H locs cells slots Q (F0 m pc ls (.int (nI a) :: rest)) :=
  lv_if_eq X.1 X.2.1 hdg ht (fun h => kt ((nI_eq ha (by decide)).mp h)) (fun h => kf (fun q => h (by rw [q]; rfl)))
theorem rn_ne0 (X : ln_X p R s m c cc nL own D g d) {a : Nat} {off : Int} {tgt : Nat} (ha : a < 2 ^ 31) (hdg : decode cc pc = .ok (.ifCond .ne off, 3)) (ht : (pc : Int) + off = (tgt : Int))
    (kt : a ≠ 0 → W p l e R s m args below meth c H locs cells slots Q (F0 m tgt ls rest)) (kf : a = 0 → W p l e R s m args below meth c H locs cells slots Q (F0 m (pc + 3) ls rest)) : W p l e R s m args below meth c H locs cells slots Q (F0 m pc ls (.int (nI a) :: rest)) :=
  lv_if_ne X.1 X.2.1 hdg ht (fun h => kt (fun q => h (by rw [q]; rfl))) (fun h => kf ((nI_eq ha (by decide)).mp h))
theorem rn_lt0 (X : ln_X p R s m c cc nL own D g d) {a : Nat} {off : Int} {tgt : Nat} (ha : a < 2 ^ 31) (hdg : decode cc pc = .ok (.ifCond .lt off, 3)) (ht : (pc : Int) + off = (tgt : Int))
    (kf : W p l e R s m args below meth c H locs cells slots Q (F0 m (pc + 3) ls rest)) : W p l e R s m args below meth c H locs cells slots Q (F0 m pc ls (.int (nI a) :: rest)) :=
  lv_if_lt X.1 X.2.1 hdg ht (fun h => absurd h (nI_pos ha)) (fun _ => kf)
theorem rn_ge0 (X : ln_X p R s m c cc nL own D g d) {a : Nat} {off : Int} {tgt : Nat} (ha : a < 2 ^ 31) (hdg : decode cc pc = .ok (.ifCond .ge off, 3)) (ht : (pc : Int) + off = (tgt : Int))
    (kt : W p l e R s m args below meth c H locs cells slots Q (F0 m tgt ls rest)) : W p l e R s m args below meth c H locs cells slots Q (F0 m pc ls (.int (nI a) :: rest)) :=
  lv_if_ge X.1 X.2.1 hdg ht (fun _ => kt) (fun h => absurd (nI_pos' ha) h)
theorem rn_le0 (X : ln_X p R s m c cc nL own D g d) {a : Nat} {off : Int} {tgt : Nat} (ha : a < 2 ^ 31) (hdg : decode cc pc = .ok (.ifCond .le off, 3)) (ht : (pc : Int) + off = (tgt : Int))
    (kt : a = 0 → W p l e R s m args below meth c H locs cells slots Q (F0 m tgt ls rest)) (kf : a ≠ 0 → W p l e R s m args below meth c H locs cells slots Q (F0 m (pc + 3) ls rest)) : W p l e R s m args below meth c H locs cells slots Q (F0 m pc ls (.int (nI a) :: rest)) :=
  lv_if_le X.1 X.2.1 hdg ht (fun h => kt (Nat.le_zero.mp ((nI_leI ha (by decide)).mp h))) (fun h => kf (fun q => h (by rw [q]; decide)))
theorem rn_gt0 (X : ln_X p R s m c cc nL own D g d) {a : Nat} {off : Int} {tgt : Nat} (ha : a < 2 ^ 31) (hdg : decode cc pc = .ok (.ifCond .gt off, 3)) (ht : (pc : Int) + off = (tgt : Int))
    (kt : a ≠ 0 → W p l e R s m args below meth c H locs cells slots Q (F0 m tgt ls rest)) (kf : a = 0 → W p l e R s m args below meth c H locs cells slots Q (F0 m (pc + 3) ls rest)) : W p l e R s m args below meth c H locs cells slots Q (F0 m pc ls (.int (nI a) :: rest)) :=
  lv_if_gt X.1 X.2.1 hdg ht (fun h => kt (fun q => absurd h (by rw [q]; decide))) (fun h => kf (Decidable.byContradiction (fun q => h (nI_lt (Nat.pos_of_ne_zero q) ha))))
theorem rn_eqB (X : ln_X p R s m c cc nL own D g d) {a : Bool} {off : Int} {tgt : Nat} (hdg : decode cc pc = .ok (.ifCond .eq off, 3)) (ht : (pc : Int) + off = (tgt : Int))
    (kt : a = false → W p l e R s m args below meth c H locs cells slots Q (F0 m tgt ls rest)) (kf : a = true → W p l e R s m args below meth c H locs cells slots Q (F0 m (pc + 3) ls rest)) : W p l e R s m args below meth c H locs cells slots Q (F0 m pc ls (.int (ln_b a) :: rest)) :=
  lv_if_eq X.1 X.2.1 hdg ht (fun h => kt (by cases a with | false => rfl | true => exact absurd h (by decide))) (fun h => kf (by cases a with | true => rfl | false => exact absurd rfl h))
theorem rn_neB (X : ln_X p R s m c cc nL own D g d) {a : Bool} {off : Int} {tgt : Nat} (hdg : decode cc pc = .ok (.ifCond .ne off, 3)) (ht : (pc : Int) + off = (tgt : Int))
    (kt : a = true → W p l e R s m args below meth c H locs cells slots Q (F0 m tgt ls rest)) (kf : a = false → W p l e R s m args below meth c H locs cells slots Q (F0 m (pc + 3) ls rest)) : W p l e R s m args below meth c H locs cells slots Q (F0 m pc ls (.int (ln_b a) :: rest)) :=
  lv_if_ne X.1 X.2.1 hdg ht (fun h => kt (by cases a with | true => rfl | false => exact absurd rfl h)) (fun h => kf (by cases a with | false => rfl | true => exact absurd h (by decide)))
theorem rn_top {x y : Int32} (h : x = y) (kk : W p l e R s m args below meth c H locs cells slots Q (F0 m pc ls (.int y :: rest))) : W p l e R s m args below meth c H locs cells slots Q (F0 m pc ls (.int x :: rest)) := h ▸ kk
theorem rn_inc {k : Nat} : nI k + Int32.ofInt 1 = nI (k + 1) := nI_1 k
theorem rn_inm {k : Nat} (h : 0 < k) : nI k + Int32.ofInt (-1) = nI (k - 1) := sb_m1 h
end LNB
