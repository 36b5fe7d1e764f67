/-! the law's kit: two worlds side by side, the start -/
theorem ln_CI_0 : ln_CI (fun _ _ => 0) 1 ln_s0 := by
  refine ⟨⟨Nat.zero_le _, fun p => ⟨Nat.zero_le _, Nat.zero_le _, fun q => ⟨Nat.zero_le _, by rw [Nat.zero_testBit]; rfl, by rw [Nat.zero_testBit]; rfl, fun h => absurd h (Nat.lt_irrefl 0)⟩⟩⟩, ⟨nI_0.symm, fun p hp => ⟨nI_0.symm, nI_0.symm, nI_0.symm, nI_0.symm, fun q _ => ?_⟩⟩, 1, 0, ⟨by decide +kernel, by decide +kernel, Nat.le_refl 1, by decide⟩, Nat.le_refl 1, ?_, ?_, ?_, ?_, ?_⟩
  · show (if 25 + p = 1 then _ else fun _ => 0 : Nat → Int32) q = nI 0
    rw [if_neg (by omega), nI_0]
  · intro r hr
    exact ⟨0, nI_0.symm, Nat.zero_le _, fun h => by unfold ln_ver at h; split at h <;> omega⟩
  · intro r hr
    exact ⟨0, nI_0.symm, Nat.zero_le _, fun h => by unfold ln_ver at h; split at h <;> omega⟩
  · exact ⟨0, nI_0.symm, Nat.zero_le _, fun h => by omega⟩
  · exact ⟨0, nI_0.symm, Nat.zero_le _, fun h => by omega⟩
  · intro r hr
    exact ⟨0, nI_0.symm, Nat.zero_le _, fun h => by unfold ln_ver at h; split at h <;> omega⟩
theorem ln_MI_0 : ln_MI (fun _ _ => 0) (fun _ _ => 0) :=
  ⟨ln_CI_0.1, ⟨nI_0.symm, fun p hp => ⟨nI_0.symm, nI_0.symm, nI_0.symm, fun q _ => nI_0.symm⟩⟩, ln_MK_0 nI_0.symm⟩
theorem ln_G_of {s : State} {A0 : Array Value} (h : ∀ w ∈ lw_tbl, w.before A0 s = true) : ln_G s := by
  intro a w hw hk
  have h1 := h w hw
  by_cases hg : goodWord w = true
  · exact word_at (State.WarmedH.refl s) (good_of_word hg) h1
  · have hn : ln_nest w = true := by
      unfold ln_ok at hk
      rcases Bool.or_eq_true _ _ ▸ hk with q | q
      · exact absurd q hg
      · exact q
    cases w with
    | fieldLinkNest x1 x2 x3 x4 x5 x6 => exact va_Nw.use rfl (va_Nw.of rfl h1)
    | methodLinkNest x1 x2 x3 x4 => exact va_Nw.use rfl (va_Nw.of rfl h1)
    | _ => exact absurd hn (by simp [ln_nest])
theorem ln_O_of {s : State} {A0 : Array Value} (h : ∀ w ∈ lw_tbl, w.before A0 s = true) : ln_O s := ⟨h _ mO_array_int, h _ mO_array_byte⟩
theorem ln_K0 {s : State} {A0 : Array Value} (h : ∀ w ∈ lw_tbl, w.before A0 s = true) : ∃ (D : va_G) (g : Nat → ClassId), va_K D ln_cl (ln_ty g) s := by
  obtain ⟨c0, i0, k0⟩ := u_known (C := RX0) (T := TX0) (N := 3) (n := 3) h kl_X0 (h _ mN_X0)
  obtain ⟨c1, i1, k1⟩ := u_known (C := RX1) (T := TX1) (N := 4) (n := 4) h kl_X1 (h _ mN_X1)
  obtain ⟨c2, i2, k2⟩ := u_known (C := RX2) (T := TX2) (N := 1) (n := 1) h kl_X2 (h _ mN_X2)
  obtain ⟨c3, i3, k3⟩ := u_known (C := RX3) (T := TX3) (N := 4) (n := 4) h kl_X3 (h _ mN_X3)
  obtain ⟨c4, i4, k4⟩ := u_known (C := RX4) (T := TX4) (N := 8) (n := 8) h kl_X4 (h _ mN_X4)
  obtain ⟨c5, i5, k5⟩ := u_known (C := RX5) (T := TX5) (N := 1) (n := 1) h kl_X5 (h _ mN_X5)
  obtain ⟨c6, i6, k6⟩ := u_known (C := RX6) (T := TX6) (N := 3) (n := 3) h kl_X6 (h _ mN_X6)
  obtain ⟨c7, i7, k7⟩ := u_known (C := RX7) (T := TX7) (N := 5) (n := 5) h kl_X7 (h _ mN_X7)
  obtain ⟨c8, i8, k8⟩ := u_known (C := RX8) (T := TX8) (N := 3) (n := 3) h kl_X8 (h _ mN_X8)
  obtain ⟨c9, i9, k9⟩ := u_known (C := RX9) (T := TX9) (N := 9) (n := 9) h kl_X9 (h _ mN_X9)
  obtain ⟨c10, i10, k10⟩ := u_known (C := RX10) (T := TX10) (N := 15) (n := 15) h kl_X10 (h _ mN_X10)
  obtain ⟨g0, t0, p0, a0, b0, e0⟩ := Cond.arrayClass_spec (h _ mA_int)
  obtain ⟨g1, t1, p1, a1, b1, e1⟩ := Cond.arrayClass_spec (h _ mA_boolean)
  obtain ⟨g2, t2, p2, a2, b2, e2⟩ := Cond.arrayClass_spec (h _ mA_byte)
  obtain ⟨p3, g3, t3, -, -, b3, e3, a3⟩ := arrayOverA_spec (h _ mO_array_int)
  obtain ⟨p4, g4, t4, -, -, b4, e4, a4⟩ := arrayOverA_spec (h _ mO_array_byte)
  refine ⟨(fun k => [c0, c1, c2, c3, c4, c5, c6, c7, c8, c9, c10].getD k 0, fun k => [i0, i1, i2, i3, i4, i5, i6, i7, i8, i9, i10].getD k (fun _ => 0)), fun k => [g0, g1, g2, g3, g4].getD k 0, fun k q hq => ?_, fun k q hq => ?_⟩
  · match k, hq with
    | 0, hq => cases hq; exact k0
    | 1, hq => cases hq; exact k1
    | 2, hq => cases hq; exact k2
    | 3, hq => cases hq; exact k3
    | 4, hq => cases hq; exact k4
    | 5, hq => cases hq; exact k5
    | 6, hq => cases hq; exact k6
    | 7, hq => cases hq; exact k7
    | 8, hq => cases hq; exact k8
    | 9, hq => cases hq; exact k9
    | 10, hq => cases hq; exact k10
    | k + 11, hq => exact absurd hq (by simp [ln_cl])
  · match k, hq with
    | 0, hq => cases hq; exact ⟨fun n z => ⟨fun k h => (by cases h), t0, b0, p0, e0⟩, a0⟩
    | 1, hq => cases hq; exact ⟨fun n z => ⟨fun k h => (by cases h), t1, b1, p1, e1⟩, a1⟩
    | 2, hq => cases hq; exact ⟨fun n z => ⟨fun k h => (by cases h), t2, b2, p2, e2⟩, a2⟩
    | 3, hq => cases hq; exact ⟨fun n z => ⟨fun k h => (by cases h), t3, b3, p3, e3⟩, a3⟩
    | 4, hq => cases hq; exact ⟨fun n z => ⟨fun k h => (by cases h), t4, b4, p4, e4⟩, a4⟩
    | k + 5, hq => exact absurd hq (by simp [ln_ty])
theorem ln_apP {D : va_G} {H : Heap} {w1 w2 : va_W} (h : va_P D ln_cl (w1 ++ w2) H) : va_P D ln_cl w1 H ∧ va_P D ln_cl w2 H := by
  refine ⟨fun k q hq => h k q ?_, fun k q hq => h (w1.length + k) q ?_⟩
  · rw [List.getElem?_append_left (List.getElem?_eq_some_iff.mp hq).1]; exact hq
  · rw [List.getElem?_append_right (by omega), Nat.add_sub_cancel_left]; exact hq
theorem ln_apD {A : Nat → Prop} {w1 w2 : va_W} (h : va_D A (w1 ++ w2)) : va_D A w1 ∧ va_D A w2 ∧ ∀ (i j : Nat) (x y : Nat × va_E), w1[i]? = some x → w2[j]? = some y → x.1 ≠ y.1 := by
  have l1 : ∀ (k : Nat) (q : Nat × va_E), w1[k]? = some q → k < w1.length ∧ (w1 ++ w2)[k]? = some q := fun k q hq => by
    have hk := (List.getElem?_eq_some_iff.mp hq).1
    exact ⟨hk, by rw [List.getElem?_append_left hk]; exact hq⟩
  have l2 : ∀ (k : Nat) (q : Nat × va_E), w2[k]? = some q → (w1 ++ w2)[w1.length + k]? = some q := fun k q hq => by
    rw [List.getElem?_append_right (by omega), Nat.add_sub_cancel_left]; exact hq
  refine ⟨⟨fun i j a b ha hb hab => h.1 i j a b (l1 i a ha).2 (l1 j b hb).2 hab, fun k q hq => h.2 k q (l1 k q hq).2⟩, ⟨fun i j a b ha hb hab => ?_, fun k q hq => h.2 _ q (l2 k q hq)⟩, fun i j x y hx hy hxy => ?_⟩
  · have := h.1 _ _ a b (l2 i a ha) (l2 j b hb) hab
    omega
  · have h1 := h.1 _ _ x y (l1 i x hx).2 (l2 j y hy) hxy
    have h2 := (l1 i x hx).1
    omega
def ln_ap (W1 W2 : ln_S → va_W) : Prop := ∀ (σ τ : ln_S) (i j : Nat) (x y : Nat × va_E), (W1 σ)[i]? = some x → (W2 τ)[j]? = some y → x.1 ≠ y.1
theorem ln_ap_of {W1 W2 : ln_S → va_W} (h1 : ln_ad W1) (h2 : ln_ad W2) {σ τ : ln_S} (h : ∀ (i j : Nat) (x y : Nat × va_E), (W1 σ)[i]? = some x → (W2 τ)[j]? = some y → x.1 ≠ y.1) : ln_ap W1 W2 := by
  intro σ' τ' i j x y hx hy
  obtain ⟨e1, q1⟩ := h1 σ' σ i x hx
  obtain ⟨e2, q2⟩ := h2 τ' τ j y hy
  exact h i j (x.1, e1) (y.1, e2) q1 q2
theorem ln_ap.flip {W1 W2 : ln_S → va_W} (h : ln_ap W1 W2) : ln_ap W2 W1 := fun σ τ i j x y hx hy e => h τ σ j i y x hy hx e.symm
theorem ln_and31 (x : Int32) : ∃ j : Nat, j < 32 ∧ x &&& nI 31 = nI j := by
  refine ⟨(x &&& nI 31).toBitVec.toNat, ?_, ?_⟩
  · rw [Int32.toBitVec_and, BitVec.toNat_and]
    exact Nat.lt_of_le_of_lt Nat.and_le_right (by decide)
  · apply Int32.toBitVec_inj.mp
    apply BitVec.eq_of_toNat_eq
    show _ = (BitVec.ofNat 32 _).toNat
    rw [BitVec.toNat_ofNat, Nat.mod_eq_of_lt (BitVec.isLt _)]
theorem ln_sub4 {L i : Nat} (hL : L ≤ 2048) (hi : i ≤ 2052) : (Int32.ofNat L - nI 4 < nI i) ↔ L < i + 4 := by
  have h1 : (Int32.ofNat L).toInt = (L : Int) := nI_toInt (by omega)
  rw [Int32.lt_iff_toInt_lt, Int32.toInt_sub, h1, nI_toInt (show 4 < 2 ^ 31 by omega), nI_toInt (show i < 2 ^ 31 by omega), Int.bmod_eq_of_le (by omega) (by omega)]
  omega
section LNW
variable {p : Program} {l : Launch} {e : Env} {R : Room} {s : State} {m : MethodId} {args : Array Value} {below : List Frame} {meth : Method} {c : Code} {H : Heap} {locs : List Loc} {cells slots : Nat} {Q : State → Prop}
variable {cc : ByteArray} {nL : Nat} {own : String} {D : va_G} {g : Nat → ClassId} {d : Nat} {pc : Nat} {ls : Array Slot} {rest st : List Value}
/-- a writer is called, another world stands beside its own -/
theorem ln_vU2 (X : ln_X p R s m c cc nL own D g d) {Wd W2 : ln_S → va_W} (had : ln_ad Wd) (hap : ln_ap Wd W2) {σ τ2 : ln_S} {A : Nat → Prop} (hA : ∀ q, s.heap.size ≤ q → A q) {y : MethodName} {bytes : ByteArray} {maxL n index d' b : Nat} {ret : Option FieldType} {As : List Value} {post : Int32 → ln_S → Prop} (hM : ln_U l D g Wd y (.code y bytes maxL ret) d' (.ref b :: As) σ post) (hP : va_P D ln_cl (Wd σ) H) (hD : va_D A (Wd σ)) (hS : va_S A s.heap H locs) (hP2 : va_P D ln_cl (W2 τ2) H) (q0 : Nat) {ci : Nat} {r : vw_C} {fs : List Value} (he : (Wd σ)[q0]? = some (b, .inr (ci, fs))) (hc : ln_cl[ci]? = some r) (hl : Cond.methodLink own index y ∈ lw_tbl) (hY : ln_Y y bytes maxL n ret r.1) (hn : As.length = n) (hd : d' + 1 ≤ d) (hls : ls.size = nL) (hst : st = As.reverse ++ .ref b :: rest) (hr : (rest.map fun v => v.category).sum ≤ 8) (hdg : decode cc pc = .ok (.invokevirtual index, 3))
    (hf : cells ≤ R.cells ∧ slots ≤ R.slots) (kk : ∀ (r : Int32) (τ : ln_S) (H1 : Heap) (locs1 : List Loc), post r τ → va_P D ln_cl (Wd τ) H1 → va_D A (Wd τ) → va_S A s.heap H1 locs1 → va_P D ln_cl (W2 τ2) H1 → W p l e R s m args below meth c H1 locs1 cells slots Q (F0 m (pc + 3) ls (.int r :: rest))) : W p l e R s m args below meth c H locs cells slots Q (F0 m pc ls st) := by
  have hfr : ∀ q, va_A (Wd σ) H.size q → A q := fun q h => by
    rcases h with ⟨k, e9, h⟩ | h
    · exact hD.2 k _ h
    · exact hA q (Nat.le_trans hS.1 h)
  refine va_calli (va_runV (Ts := []) (As := As) ⟨X.1, X.2.1, X.2.2.1, X.2.2.2.1, fun _ h => absurd h List.not_mem_nil⟩ (hM H.size) ⟨ln_cb X hY.2.2.1 hY.2.2.2.1 hY.2.2.2.2.1 hY.2.2.2.2.2 hd hl, X.ts args hY.1 rfl, X.ts args hY.2.1 rfl⟩ ⟨ln_blindU, va_recv X.2.2.2.2.1 hP hc he, fun U hU hW => ⟨rfl, by rw [hU], by rw [hU]; exact hP, hD.weaken (fun _ _ _ _ => trivial), va_K.moved hW.alike X.2.2.2.2.1, ln_G.warm hW X.2.2.2.2.2.1⟩⟩ rfl hn hls hst (lv_room hr) hdg hf) hS (fun q _ h => hfr q h) hfr (fun r τ t H1 locs1 ht hvm hp hB hz hk hS1 => ?_)
  refine kk r τ H1 locs1 hp (by rw [← ht]; exact hB) (had.D hD) hS1 (fun k q hq => (hP2 k q hq).kept (hk q.1 (hP2 k q hq).lt (fun z => ?_)))
  rcases z with ⟨k2, e9, z⟩ | z
  · exact hap σ τ2 k2 k _ _ z hq rfl
  · exact absurd (hP2 k q hq).lt (by omega)
end LNW
section LNL
variable {p : Program} {l : Launch} {e : Env} {s : State} {m : MethodId} {args : Array Value} {below : List Frame} {meth : Method} {c : Code} {H : Heap} {locs : List Loc} {cells slots : Nat} {Q : State → Prop}
variable {D : va_G} {g : Nat → ClassId} {pc : Nat} {ls : Array Slot} {rest : List Value} {A : Nat → Prop} {b0 L i a0 m0 : Nat} {xs : Nat → Int32}
/-- an int of the script, behind the call's number -/
theorem lw_rd (X : ln_X p room_1 s m c cL_law 4 RL D g 34) (hX : va_X b0 L xs s s.heap) (hbl : b0 < s.heap.size) (hbA : ¬ A b0) (hS : va_S A s.heap H locs) (hl : lv_has ls 4 [(0, .ref b0), (1, .ref a0), (2, .ref m0), (3, .int (nI i))]) (k : Nat) (hk : i + k < L) (hL : L ≤ 2048) {n : Int} (hn : Int32.ofInt n = nI k) (d1 : decode cL_law pc = .ok (.aload_n 0, 1)) (d2 : decode cL_law (pc + 1) = .ok (.iload_n 3, 1)) (d3 : decode cL_law (pc + 1 + 1) = .ok (.iconst n, 1)) (d4 : decode cL_law (pc + 1 + 1 + 1) = .ok (.iadd, 1)) (d5 : decode cL_law (pc + 1 + 1 + 1 + 1) = .ok (.iaload, 1))
    (kk : W p l e room_1 s m args below meth c H locs cells slots Q (F0 m (pc + 1 + 1 + 1 + 1 + 1) ls (.int (xs (i + k)) :: rest))) : W p l e room_1 s m args below meth c H locs cells slots Q (F0 m pc ls rest) := by
  refine lv_aload_n X.1 X.2.1 d1 rfl (lv_at hl 0 rfl) ?_
  refine lv_iload_n X.1 X.2.1 d2 rfl (lv_at hl 3 rfl) ?_
  refine lv_iconst (v := nI k) X.1 X.2.1 d3 hn ?_
  refine lv_iadd X.1 X.2.1 d4 ?_
  rw [nI_add]
  refine va_sld X.1 X.2.1 hX hbl hbA hS (vp_in_nI hk (by omega)) d5 ?_
  rw [nI_clamp (by omega)]
  exact kk
/-- both sides fit one net -/
def ln_J (s : State) (D : va_G) (g : Nat → ClassId) (A : Nat → Prop) (a b : Nat → Nat) (N : ln_N) (v : Nat) (H : Heap) (locs : List Loc) : Prop := ∃ σ τ, ln_CI N v σ ∧ ln_MI N τ ∧ va_P D ln_cl (CW a g σ) H ∧ va_D A (CW a g σ) ∧ va_P D ln_cl (MW b g τ) H ∧ va_D A (MW b g τ) ∧ va_S A s.heap H locs
end LNL
