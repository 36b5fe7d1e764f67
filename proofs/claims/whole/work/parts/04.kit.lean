/-! my own small kit: one state of words for all methods, worlds that hang on a state of numbers, readers and writers -/
abbrev ln_S : Type := Nat → Nat → Int32
def ln_up (σ : ln_S) (k : Nat) (f : Nat → Int32) : ln_S := fun j => if j = k then f else σ j
theorem ln_up_s (σ : ln_S) (k : Nat) (f : Nat → Int32) : ln_up σ k f k = f := if_pos rfl
theorem ln_up_n (σ : ln_S) {k j : Nat} (f : Nat → Int32) (h : j ≠ k) : ln_up σ k f j = σ j := if_neg h
abbrev ln_cl : List vw_C := [(RX0, TX0, 3), (RX1, TX1, 4), (RX2, TX2, 1), (RX3, TX3, 4), (RX4, TX4, 8), (RX5, TX5, 1), (RX6, TX6, 3), (RX7, TX7, 5), (RX8, TX8, 3), (RX9, TX9, 9), (RX10, TX10, 15)]
def ln_ty (g : Nat → ClassId) : List (ClassId × FieldType) := [(g 0, .int), (g 1, .boolean), (g 2, .byte), (g 3, .array .int), (g 4, .array .byte)]
def ln_ok (w : Cond) : Bool := goodWord w || ln_nest w
def ln_G (U : State) : Prop := ∀ (a : Array Value) (w : Cond), w ∈ lw_tbl → ln_ok w = true → w.before a U = true
theorem ln_G.warm {s U : State} (hW : s.WarmedH U.vm) (h : ln_G s) : ln_G U := by
  intro a w hw hk
  have h1 := h #[] w hw hk
  by_cases hg : goodWord w = true
  · exact word_at hW (good_of_word hg) h1
  · have hn : ln_nest w = true := by
      unfold ln_ok at hk
      rcases Bool.or_eq_true _ _ ▸ hk with q | q
      · exact absurd q hg
      · exact q
    cases w with
    | fieldLinkNest x1 x2 x3 x4 x5 x6 => exact va_Nw.use rfl (va_Nw.warmF hW (va_Nw.of rfl h1))
    | methodLinkNest x1 x2 x3 x4 => exact va_Nw.use rfl (va_Nw.warmM hW (va_Nw.of rfl h1))
    | _ => exact absurd hn (by simp [ln_nest])
def ln_rm (d : Nat) : Room := { frames := d, cells := 0, slots := 0, locals := 60 * d }
/-- what a method's body has at hand, all along -/
def ln_X (p : Program) (R : Room) (s : State) (m : MethodId) (c : Code) (cc : ByteArray) (nL : Nat) (own : String) (D : va_G) (g : Nat → ClassId) (d : Nat) : Prop :=
  p.tables.exec = Jvm.exec ∧ c.code = cc ∧ c.maxLocals = nL ∧ s.vm.findClass own = some m.cls ∧ va_K D ln_cl (ln_ty g) s ∧ ln_G s ∧ d ≤ R.frames ∧ 60 * d ≤ R.locals
/-- a reader: the heap stays -/
def ln_R (l : Launch) (D : va_G) (g : Nat → ClassId) (ws : va_W) (y : MethodName) (cd : Cond) (d : Nat) (av : List Value) (post : Int32 → Prop) : Prop :=
  Met l y [cd] (ln_rm d) (va_Pc av (fun U => va_P D ln_cl ws U.heap ∧ va_K D ln_cl (ln_ty g) U ∧ ln_G U)) (vp_Si post) 0 0 (fun _ => False)
/-- a writer over a world that hangs on a state: an int comes back -/
def ln_U (l : Launch) (D : va_G) (g : Nat → ClassId) (Wd : ln_S → va_W) (y : MethodName) (cd : Cond) (d : Nat) (av : List Value) (σ : ln_S) (post : Int32 → ln_S → Prop) : Prop :=
  ∀ sz : Nat, Met l y [cd] (ln_rm d) (va_Pc av (fun U => U.heap.size = sz ∧ va_P D ln_cl (Wd σ) U.heap ∧ va_D (fun _ => True) (Wd σ) ∧ va_K D ln_cl (ln_ty g) U ∧ ln_G U)) (va_Qi post (fun τ t => va_P D ln_cl (Wd τ) t.heap) (va_A (Wd σ) sz)) 0 0 (va_A (Wd σ) sz)
/-- the same, nothing comes back -/
def ln_V (l : Launch) (D : va_G) (g : Nat → ClassId) (Wd : ln_S → va_W) (y : MethodName) (cd : Cond) (d : Nat) (av : List Value) (σ : ln_S) (post : ln_S → Prop) : Prop :=
  ∀ sz : Nat, Met l y [cd] (ln_rm d) (va_Pc av (fun U => U.heap.size = sz ∧ va_P D ln_cl (Wd σ) U.heap ∧ va_D (fun _ => True) (Wd σ) ∧ va_K D ln_cl (ln_ty g) U ∧ ln_G U)) (va_Qv post (fun τ t => va_P D ln_cl (Wd τ) t.heap) (va_A (Wd σ) sz)) 0 0 (va_A (Wd σ) sz)
/-- the same, the address ad comes back -/
def ln_F (l : Launch) (D : va_G) (g : Nat → ClassId) (Wd : ln_S → va_W) (y : MethodName) (cd : Cond) (d : Nat) (av : List Value) (σ : ln_S) (ad : Nat) (post : ln_S → Prop) : Prop :=
  ∀ sz : Nat, Met l y [cd] (ln_rm d) (va_Pc av (fun U => U.heap.size = sz ∧ va_P D ln_cl (Wd σ) U.heap ∧ va_D (fun _ => True) (Wd σ) ∧ va_K D ln_cl (ln_ty g) U ∧ ln_G U)) (va_Qr post (fun τ a t => a = ad ∧ va_P D ln_cl (Wd τ) t.heap) (va_A (Wd σ) sz)) 0 0 (va_A (Wd σ) sz)
/-- worlds whose addresses don't hang on the state -/
def ln_ad (Wd : ln_S → va_W) : Prop := ∀ (σ τ : ln_S) (k : Nat) (q : Nat × va_E), (Wd σ)[k]? = some q → ∃ e, (Wd τ)[k]? = some (q.1, e)
theorem ln_ad.D {Wd : ln_S → va_W} (h : ln_ad Wd) {A : Nat → Prop} {σ τ : ln_S} (hD : va_D A (Wd σ)) : va_D A (Wd τ) := by
  refine ⟨fun i j x y hi hj hxy => ?_, fun k q hk => ?_⟩
  · obtain ⟨e1, h1⟩ := h τ σ i x hi
    obtain ⟨e2, h2⟩ := h τ σ j y hj
    exact hD.1 i j _ _ h1 h2 hxy
  · obtain ⟨e1, h1⟩ := h τ σ k q hk
    exact hD.2 k (q.1, e1) h1
theorem ln_ad.A {Wd : ln_S → va_W} (h : ln_ad Wd) {σ : ln_S} (τ : ln_S) {sz q : Nat} (hq : va_A (Wd σ) sz q) : va_A (Wd τ) sz q := by
  rcases hq with ⟨k, e, hk⟩ | hz
  · obtain ⟨e1, h1⟩ := h σ τ k _ hk
    exact Or.inl ⟨k, e1, h1⟩
  · exact Or.inr hz
theorem ln_blind {D : va_G} {g : Nat → ClassId} {ws : va_W} {av : List Value} : FrameBlind (va_Pc av (fun U => va_P D ln_cl ws U.heap ∧ va_K D ln_cl (ln_ty g) U ∧ ln_G U)) := by
  intro a U gf mk q
  obtain ⟨q0, qP, qK, qG⟩ := q
  exact ⟨q0, qP, va_K.moved (u := U) (U := U.calling gf mk a) (Vm.Alike.refl U.vm) qK, ln_G.warm (s := U) (U := U.calling gf mk a) (State.WarmedH.refl U) qG⟩
theorem ln_blindU {D : va_G} {g : Nat → ClassId} {ws : va_W} {av : List Value} {sz : Nat} : FrameBlind (va_Pc av (fun U => U.heap.size = sz ∧ va_P D ln_cl ws U.heap ∧ va_D (fun _ => True) ws ∧ va_K D ln_cl (ln_ty g) U ∧ ln_G U)) := by
  intro a U gf mk q
  obtain ⟨q0, q1, qP, qD, qK, qG⟩ := q
  exact ⟨q0, q1, qP, qD, va_K.moved (u := U) (U := U.calling gf mk a) (Vm.Alike.refl U.vm) qK, ln_G.warm (s := U) (U := U.calling gf mk a) (State.WarmedH.refl U) qG⟩
def ln_yn (y : MethodName) (n : Nat) : Prop := y.cls ≠ "java/lang/invoke/MethodHandle" ∧ y.cls ≠ "java/lang/invoke/VarHandle" ∧ (parseMethodDescriptor y.desc).map (fun d => d.parameters.length) = some n
section LNA
variable {p : Program} {l : Launch} {e : Env} {R : Room} {s : State} {m : MethodId} {args : Array Value} {below : List Frame} {meth : Method} {c : Code} {H : Heap} {locs : List Loc} {cells slots : Nat} {Q : State → Prop}
variable {cc : ByteArray} {nL : Nat} {own : String} {D : va_G} {g : Nat → ClassId} {d : Nat} {pc : Nat} {ls : Array Slot} {rest : List Value}
theorem ln_X.ts (X : ln_X p R s m c cc nL own D g d) (a : Array Value) {w : Cond} (hw : w ∈ lw_tbl) (hk : ln_ok w = true) : w.before a s = true := X.2.2.2.2.2.1 a w hw hk
theorem ln_lays (X : ln_X p R s m c cc nL own D g d) {C : String} {T : u_T} {N : Nat} (hin : ∀ w ∈ u_ws C T N, w ∈ lw_tbl) (w : Cond) (hw : w ∈ u_ws C T N) : w.before args s = true := by
  refine X.ts args (hin w hw) ?_
  obtain ⟨k, -, rfl⟩ := List.mem_map.mp hw
  unfold u_lay
  split <;> rfl
theorem ln_get (X : ln_X p R s m c cc nL own D g d) {ws : va_W} (hP : va_P D ln_cl ws H) (q0 : Nat) {a ci : Nat} {fs : List Value} (he : ws[q0]? = some (a, .inr (ci, fs))) {C : String} {T : u_T} {N : Nat} (hc : ln_cl[ci]? = some (C, T, N)) (hin : ∀ w ∈ u_ws C T N, w ∈ lw_tbl) (k : Nat) (hk : k < N) {index : Nat} (hlink : Cond.fieldLink own index (T k).1 (T k).2.1 (T k).2.2.1 ∈ lw_tbl) {v : Value} (hv : fs[k]? = some v) (hdg : decode cc pc = .ok (.getfield index, 3))
    (kk : W p l e R s m args below meth c H locs cells slots Q (F0 m (pc + 3) ls (v :: rest))) : W p l e R s m args below meth c H locs cells slots Q (F0 m pc ls (.ref a :: rest)) :=
  va_get X.1 X.2.1 (Ts := u_ws C T N) (ln_lays X hin) (fun _ h => h) X.2.2.2.1 X.2.2.2.2.1 hP q0 he hc k hk (X.ts args hlink rfl) (fun _ h => h) hv hdg kk
theorem ln_getN (X : ln_X p R s m c cc nL own D g d) {ws : va_W} (hP : va_P D ln_cl ws H) (q0 : Nat) {a ci : Nat} {fs : List Value} (he : ws[q0]? = some (a, .inr (ci, fs))) {C : String} {T : u_T} {N : Nat} (hc : ln_cl[ci]? = some (C, T, N)) (hin : ∀ w ∈ u_ws C T N, w ∈ lw_tbl) (k : Nat) (hk : k < N) {index : Nat} {host : String} (hlink : Cond.fieldLinkNest own index (T k).1 (T k).2.1 (T k).2.2.1 host ∈ lw_tbl) {v : Value} (hv : fs[k]? = some v) (hdg : decode cc pc = .ok (.getfield index, 3))
    (kk : W p l e R s m args below meth c H locs cells slots Q (F0 m (pc + 3) ls (v :: rest))) : W p l e R s m args below meth c H locs cells slots Q (F0 m pc ls (.ref a :: rest)) :=
  va_getN X.1 X.2.1 (Ts := u_ws C T N) (ln_lays X hin) (fun _ h => h) X.2.2.2.1 X.2.2.2.2.1 hP q0 he hc k hk (X.ts args hlink rfl) (fun _ h => h) hv hdg kk
theorem ln_put (X : ln_X p R s m c cc nL own D g d) {Wd : ln_S → va_W} {σ τ : ln_S} {A : Nat → Prop} {H0 : Heap} (hP : va_P D ln_cl (Wd σ) H) (hD : va_D A (Wd σ)) (hS : va_S A H0 H locs) (q0 : Nat) {a ci : Nat} {fs : List Value} (he : (Wd σ)[q0]? = some (a, .inr (ci, fs))) {C : String} {T : u_T} {N : Nat} (hc : ln_cl[ci]? = some (C, T, N)) (hin : ∀ w ∈ u_ws C T N, w ∈ lw_tbl) (ty0 : Nat → FieldType) (hty : ∀ k, k < N → parseFieldDescriptor (T k).2.2.1 = some (ty0 k)) (hnm : ∀ a, a < N → ∀ b, b < N → a ≠ b → (T a).2.1 ≠ (T b).2.1) (k : Nat) (hk : k < N) {index : Nat} (hlink : Cond.fieldLink own index (T k).1 (T k).2.1 (T k).2.2.1 ∈ lw_tbl) (hfin : (T k).2.2.2 = false) {x : Int32} (hd : parseFieldDescriptor (T k).2.2.1 = some .int) (hl : k < fs.length) (hset : (Wd σ).set q0 (a, .inr (ci, fs.set k (.int x))) = Wd τ) (hdg : decode cc pc = .ok (.putfield index, 3))
    (kk : ∀ (H1 : Heap) (locs1 : List Loc), va_P D ln_cl (Wd τ) H1 → va_D A (Wd τ) → va_S A H0 H1 locs1 → W p l e R s m args below meth c H1 locs1 cells slots Q (F0 m (pc + 3) ls rest)) : W p l e R s m args below meth c H locs cells slots Q (F0 m pc ls (.int x :: .ref a :: rest)) :=
  va_put X.1 X.2.1 (Ts := u_ws C T N) (ln_lays X hin) (fun _ h => h) ty0 hty hnm X.2.2.2.1 X.2.2.2.2.1 hP hD hS q0 he hc k hk (X.ts args hlink rfl) (fun _ h => h) hfin hd rfl rfl hl hdg (fun H1 locs1 h1 h2 h3 => kk H1 locs1 (hset ▸ h1) (hset ▸ h2) h3)
theorem ln_iald (X : ln_X p R s m c cc nL own D g d) {ws : va_W} (hP : va_P D ln_cl ws H) (q0 : Nat) {a n k : Nat} {f : Nat → Int32} (ha : ws[q0]? = some (a, .inl (g 0, n, .inl f))) (hk : k < n) (hn : n < 2 ^ 31) {v : Int32} (hv : f k = v) (hdg : decode cc pc = .ok (.iaload, 1))
    (kk : W p l e R s m args below meth c H locs cells slots Q (F0 m (pc + 1) ls (.int v :: rest))) : W p l e R s m args below meth c H locs cells slots Q (F0 m pc ls (.int (nI k) :: .ref a :: rest)) := by
  refine va_iald X.1 X.2.1 X.2.2.2.2.1 hP q0 0 ha rfl (vp_in_nI hk hn) hdg ?_
  rw [nI_clamp (Nat.lt_trans hk hn), hv]
  exact kk
theorem ln_zald (X : ln_X p R s m c cc nL own D g d) {ws : va_W} (hP : va_P D ln_cl ws H) (q0 : Nat) {a n k : Nat} {f : Nat → Int32} (ha : ws[q0]? = some (a, .inl (g 1, n, .inl f))) (hk : k < n) (hn : n < 2 ^ 31) {v : Int32} (hv : f k = v) (hdg : decode cc pc = .ok (.baload, 1))
    (kk : W p l e R s m args below meth c H locs cells slots Q (F0 m (pc + 1) ls (.int v :: rest))) : W p l e R s m args below meth c H locs cells slots Q (F0 m pc ls (.int (nI k) :: .ref a :: rest)) := by
  refine va_zald X.1 X.2.1 X.2.2.2.2.1 hP q0 1 ha rfl (vp_in_nI hk hn) hdg ?_
  rw [nI_clamp (Nat.lt_trans hk hn), hv]
  exact kk
theorem ln_bald (X : ln_X p R s m c cc nL own D g d) {ws : va_W} (hP : va_P D ln_cl ws H) (q0 : Nat) {a n k : Nat} {f : Nat → Int32} (ha : ws[q0]? = some (a, .inl (g 2, n, .inl f))) (hk : k < n) (hn : n < 2 ^ 31) {v : Int32} (hv : f k = v) (hdg : decode cc pc = .ok (.baload, 1))
    (kk : W p l e R s m args below meth c H locs cells slots Q (F0 m (pc + 1) ls (.int v :: rest))) : W p l e R s m args below meth c H locs cells slots Q (F0 m pc ls (.int (nI k) :: .ref a :: rest)) := by
  refine va_bald X.1 X.2.1 X.2.2.2.2.1 hP q0 2 ha rfl (vp_in_nI hk hn) hdg ?_
  rw [nI_clamp (Nat.lt_trans hk hn), hv]
  exact kk
theorem ln_aald (X : ln_X p R s m c cc nL own D g d) {ws : va_W} (hP : va_P D ln_cl ws H) (q0 t0 : Nat) {a n k : Nat} {f : Nat → Option Nat} {cA : ClassId} {ty : FieldType} (ha : ws[q0]? = some (a, .inl (cA, n, .inr (.inr (.inr (.inr f)))))) (ht : (ln_ty g)[t0]? = some (cA, ty)) (hty : ty.isReference = true) (hk : k < n) (hn : n < 2 ^ 31) {v : Nat} (hv : f k = some v) (hdg : decode cc pc = .ok (.aaload, 1))
    (kk : W p l e R s m args below meth c H locs cells slots Q (F0 m (pc + 1) ls (.ref v :: rest))) : W p l e R s m args below meth c H locs cells slots Q (F0 m pc ls (.int (nI k) :: .ref a :: rest)) := by
  have hc : (nI k).toNatClampNeg = k := nI_clamp (Nat.lt_trans hk hn)
  refine W.aald (v := .ref v) (ty := ty) X.1 X.2.1 (hP q0 _ ha) ((X.2.2.2.2.1.2 t0 _ ht).1 n (fun j => va_rf (f j))) hty (fun q => by cases q) (by show ¬ (nI k < 0 ∨ (arrV _ _ _).slots.size ≤ _); rw [arrV_size]; exact vp_in_nI hk hn) (by show (arrV _ _ _).slots[_]? = _; rw [hc, arrV_read _ _ hk, hv]; rfl) rfl rfl hdg kk
theorem ln_iast (X : ln_X p R s m c cc nL own D g d) {Wd : ln_S → va_W} {σ τ : ln_S} {A : Nat → Prop} {H0 : Heap} (hP : va_P D ln_cl (Wd σ) H) (hD : va_D A (Wd σ)) (hS : va_S A H0 H locs) (q0 : Nat) {a n k : Nat} {f : Nat → Int32} (ha : (Wd σ)[q0]? = some (a, .inl (g 0, n, .inl f))) (hk : k < n) (hn : n < 2 ^ 31) {x : Int32} (hset : (Wd σ).set q0 (a, .inl (g 0, n, .inl (upd f k x))) = Wd τ) (hdg : decode cc pc = .ok (.iastore, 1))
    (kk : ∀ (H1 : Heap) (locs1 : List Loc), va_P D ln_cl (Wd τ) H1 → va_D A (Wd τ) → va_S A H0 H1 locs1 → W p l e R s m args below meth c H1 locs1 cells slots Q (F0 m (pc + 1) ls rest)) : W p l e R s m args below meth c H locs cells slots Q (F0 m pc ls (.int x :: .int (nI k) :: .ref a :: rest)) := by
  have hc : (nI k).toNatClampNeg = k := nI_clamp (Nat.lt_trans hk hn)
  refine va_iast X.1 X.2.1 X.2.2.2.2.1 hP hD hS q0 0 ha rfl (vp_in_nI hk hn) hdg (fun H1 locs1 h1 h2 h3 => ?_)
  rw [hc, hset] at h1 h2
  exact kk H1 locs1 h1 h2 h3
theorem ln_zast (X : ln_X p R s m c cc nL own D g d) {Wd : ln_S → va_W} {σ τ : ln_S} {A : Nat → Prop} {H0 : Heap} (hP : va_P D ln_cl (Wd σ) H) (hD : va_D A (Wd σ)) (hS : va_S A H0 H locs) (q0 : Nat) {a n k : Nat} {f : Nat → Int32} (ha : (Wd σ)[q0]? = some (a, .inl (g 1, n, .inl f))) (hk : k < n) (hn : n < 2 ^ 31) {x : Int32} (hx : vp_nar .boolean x = x) (hset : (Wd σ).set q0 (a, .inl (g 1, n, .inl (upd f k x))) = Wd τ) (hdg : decode cc pc = .ok (.bastore, 1))
    (kk : ∀ (H1 : Heap) (locs1 : List Loc), va_P D ln_cl (Wd τ) H1 → va_D A (Wd τ) → va_S A H0 H1 locs1 → W p l e R s m args below meth c H1 locs1 cells slots Q (F0 m (pc + 1) ls rest)) : W p l e R s m args below meth c H locs cells slots Q (F0 m pc ls (.int x :: .int (nI k) :: .ref a :: rest)) := by
  have hc : (nI k).toNatClampNeg = k := nI_clamp (Nat.lt_trans hk hn)
  refine va_zast X.1 X.2.1 X.2.2.2.2.1 hP hD hS q0 1 ha rfl (vp_in_nI hk hn) hdg (fun H1 locs1 h1 h2 h3 => ?_)
  rw [hc, hx, hset] at h1 h2
  exact kk H1 locs1 h1 h2 h3
theorem ln_bast (X : ln_X p R s m c cc nL own D g d) {Wd : ln_S → va_W} {σ τ : ln_S} {A : Nat → Prop} {H0 : Heap} (hP : va_P D ln_cl (Wd σ) H) (hD : va_D A (Wd σ)) (hS : va_S A H0 H locs) (q0 : Nat) {a n k : Nat} {f : Nat → Int32} (ha : (Wd σ)[q0]? = some (a, .inl (g 2, n, .inl f))) (hk : k < n) (hn : n < 2 ^ 31) {x : Int32} (hx : vp_nar .byte x = x) (hset : (Wd σ).set q0 (a, .inl (g 2, n, .inl (upd f k x))) = Wd τ) (hdg : decode cc pc = .ok (.bastore, 1))
    (kk : ∀ (H1 : Heap) (locs1 : List Loc), va_P D ln_cl (Wd τ) H1 → va_D A (Wd τ) → va_S A H0 H1 locs1 → W p l e R s m args below meth c H1 locs1 cells slots Q (F0 m (pc + 1) ls rest)) : W p l e R s m args below meth c H locs cells slots Q (F0 m pc ls (.int x :: .int (nI k) :: .ref a :: rest)) := by
  have hc : (nI k).toNatClampNeg = k := nI_clamp (Nat.lt_trans hk hn)
  refine va_bast X.1 X.2.1 X.2.2.2.2.1 hP hD hS q0 2 ha rfl (vp_in_nI hk hn) hdg (fun H1 locs1 h1 h2 h3 => ?_)
  rw [hc, hx, hset] at h1 h2
  exact kk H1 locs1 h1 h2 h3
end LNA
