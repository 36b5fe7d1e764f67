/-! constructors: an object's own cell comes in, its cells and those that it made come out -/
theorem ln_over {u U : State} {t : FieldType} (hal : u.vm.Alike U.vm) (h : va_AOA t u) : va_AOA t U := by
  obtain ⟨comp, c, k, hc, hi, hk, hkind, hn⟩ := arrayOverA_spec h
  have e1 : U.vm.findClass (FieldType.array t).toString = some comp := by rw [hal.findClass]; exact hc
  have e3 : U.vm.findClass ("[" ++ (FieldType.array t).toString) = some c := by rw [hal.findClass]; exact hn
  have e2 : (U.vm.classes.findIdx? fun x => match x.kind with | .array component _ => component == comp | _ => false) = some c := by
    rw [hal.findIdx?_eq _ (fun _ => rfl)]; exact hi
  obtain ⟨k', hk', he⟩ := hal.2.2 _ _ hk
  have hkind' : k'.kind = .array comp (.array t) := by rw [he]; exact hkind
  show (Cond.arrayOver (.array t)).before #[] U = true
  simp only [Cond.before, Cond.holds, Cond.value, beq_iff_eq, e1, e2, hk', Option.bind_some, Option.map_some, hkind']
  simp [e3]
  refine Option.bind_eq_some_iff.mpr ⟨c, e2, ?_⟩
  simp [hk', hkind']
def ln_O (U : State) : Prop := va_AOA .int U ∧ va_AOA .byte U
theorem ln_O.moved {u U : State} (hal : u.vm.Alike U.vm) (h : ln_O u) : ln_O U := ⟨ln_over hal h.1, ln_over hal h.2⟩
def ln_rk (d mc ms : Nat) : Room := { frames := d, cells := mc, slots := ms, locals := 60 * d }
def ln_K (l : Launch) (D : va_G) (g : Nat → ClassId) (y : MethodName) (cd : Cond) (d mc ms : Nat) (av : List Value) (w0 : va_W) (Wd : (Nat → Nat) → va_W) (post : (Nat → Nat) → Prop) : Prop :=
  ∀ sz : Nat, Met l y [cd] (ln_rk d mc ms) (va_Pc av (fun U => U.heap.size = sz ∧ va_P D ln_cl w0 U.heap ∧ va_D (fun _ => True) w0 ∧ va_K D ln_cl (ln_ty g) U ∧ ln_G U ∧ ln_O U)) (va_Qv post (fun b t => va_P D ln_cl (Wd b) t.heap ∧ va_D (va_A w0 sz) (Wd b)) (va_A w0 sz)) mc ms (va_A w0 sz)
theorem ln_blindK {D : va_G} {g : Nat → ClassId} {ws : va_W} {av : List Value} {sz : Nat} : FrameBlind (va_Pc av (fun U => U.heap.size = sz ∧ va_P D ln_cl ws U.heap ∧ va_D (fun _ => True) ws ∧ va_K D ln_cl (ln_ty g) U ∧ ln_G U ∧ ln_O U)) := by
  intro a U gf mk q
  obtain ⟨q0, q1, qP, qD, qK, qG, qO⟩ := q
  exact ⟨q0, q1, qP, qD, va_K.moved (u := U) (U := U.calling gf mk a) (Vm.Alike.refl U.vm) qK, ln_G.warm (s := U) (U := U.calling gf mk a) (State.WarmedH.refl U) qG, ln_O.moved (u := U) (U := U.calling gf mk a) (Vm.Alike.refl U.vm) qO⟩
def ln_YI (y : MethodName) (bytes : ByteArray) (maxL n : Nat) : Prop := y.name = "<init>" ∧ Cond.instanceMethod y ∈ lw_tbl ∧ Cond.initialized y.cls ∈ lw_tbl ∧ Cond.code y bytes maxL none ∈ lw_tbl ∧ ln_yn y n ∧ maxL ≤ 40
section LNK
variable {p : Program} {l : Launch} {e : Env} {R : Room} {s : State} {m : MethodId} {args : Array Value} {below : List Frame} {meth : Method} {c : Code} {H : Heap} {locs : List Loc} {cells slots : Nat} {Q : State → Prop}
variable {cc : ByteArray} {nL : Nat} {own : String} {D : va_G} {g : Nat → ClassId} {d : Nat} {pc : Nat} {ls : Array Slot} {rest st : List Value} {A : Nat → Prop} {ws : va_W}
theorem ln_ofK {y : MethodName} {w0 : va_W} {Wd : (Nat → Nat) → va_W} {post : (Nat → Nat) → Prop} {mc ms : Nat} {av : List Value} (hy : plainName y.cls = true) (hy1 : y.name = "<init>") (hlen : (lg_sl av).length ≤ nL)
    (body : ∀ (p : Program) (e : Env) (s : State) (m : MethodId) (args : Array Value) (below : List Frame) (meth : Method) (c : Code) (ls : Array Slot) (A : Nat → Prop), meth.sig.returnType = none → meth.locks = false → meth.name = "<init>" → ln_X p (ln_rk d mc ms) s m c cc nL y.cls D g d → ln_O s → (∀ q, s.heap.size ≤ q → A q) → va_P D ln_cl w0 s.heap → va_D A w0 → va_S A s.heap s.heap [] → lv_has ls nL (lv_args 0 av) →
      W p l e (ln_rk d mc ms) s m args below meth c s.heap [] 0 0 (MQ below (va_Qv post (fun b t => va_P D ln_cl (Wd b) t.heap ∧ va_D A (Wd b)) A) args s mc ms A) (F0 m 0 ls [])) : ln_K l D g y (.code y cc nL none) d mc ms av w0 Wd post := by
  intro sz
  refine Met.ofW (cc := cc) (maxL := nL) (ret := none) hy rfl ?_
  intro p e s m args below meth c s₁ B hml hv
  obtain ⟨rfl, hsz, hP, hD, hK, hG, hO⟩ := hv
  subst hsz
  rw [lg_entry_eq]
  exact body p e s m _ below meth c _ _ B.returns B.notSynchronized ((name_of_methodNamed B.named B.method).1.trans hy1) ⟨B.exec, B.bytes, hml, findClass_of_methodNamed B.named, hK, hG, Nat.le_refl d, Nat.le_refl (60 * d)⟩ hO (fun q h => Or.inr h) hP hD.self va_S.rf (lv_entry av hlen)
theorem ln_retK {Wd : (Nat → Nat) → va_W} {post : (Nat → Nat) → Prop} (b : Nat → Nat) (X : ln_X p R s m c cc nL own D g d) (hr : meth.sig.returnType = none) (hlk : meth.locks = false) (hP : va_P D ln_cl (Wd b) H) (hD : va_D A (Wd b)) (hS : va_S A s.heap H locs) (hp : post b) (hdg : decode cc pc = .ok (.return_, 1)) : W p l e R s m args below meth c H locs cells slots (MQ below (va_Qv post (fun b t => va_P D ln_cl (Wd b) t.heap ∧ va_D A (Wd b)) A) args s cells slots A) (F0 m pc ls []) :=
  W.vret X.1 X.2.1 hr (fun t ht hW => ⟨⟨b, rfl, hp, by show va_P D ln_cl (Wd b) t.heap; rw [ht]; exact hP, hD⟩, hS.F ht⟩) hS.2.2 hdg hlk
theorem ln_objI (X : ln_X p R s m c cc nL own D g d) (hd : 1 ≤ d) {idx a : Nat} (hl : Cond.methodLink own idx Lib.objectInit ∈ lw_tbl) (hls : ls.size = nL) (hr : (rest.map fun v => v.category).sum ≤ 8) (hdg : decode cc pc = .ok (.invokespecial idx, 3))
    (kk : W p l e R s m args below meth c H locs cells slots Q (F0 m (pc + 3) ls rest)) : W p l e R s m args below meth c H locs cells slots Q (F0 m pc ls (.ref a :: rest)) := by
  have h1 := X.2.2.2.2.2.2.1
  have h2 := X.2.2.2.2.2.2.2
  refine W.objInit X.1 X.2.1 X.2.2.2.1 (X.ts args hl rfl) (X.ts args mV_objInit rfl) (X.ts args mC_objInit rfl) rfl (hls.trans X.2.2.1.symm) rfl hdg (by omega) ?_ kk
  have h3 := lv_room (m := m) (pc := pc) (ls := ls) (rest := rest) hr
  show 2 * 0 + _ + 12 ≤ _
  omega
theorem ln_cA {t : FieldType} {cA cB : ClassId} {k : Nat} {tys : List (ClassId × FieldType)} (hk : va_K D ln_cl (tys ++ [(cA, t)]) s) (h0 : tys[k]? = some (cB, t)) (ht : ∀ C, t ≠ .object C) : cA = cB := by
  have hlt : k < tys.length := (List.getElem?_eq_some_iff.mp h0).1
  have h1 := (hk.2 k _ (by rw [List.getElem?_append_left hlt]; exact h0)).2
  have h2 := (hk.2 tys.length (cA, t) (by simp)).2
  cases t with
  | object C => exact absurd rfl (ht C)
  | _ => exact Option.some.inj (h2.symm.trans h1)
theorem ln_newA (X : ln_X p R s m c cc nL own D g d) {atype : ArrayType} {ty : FieldType} (hty : newarray.typeOf atype = ty) (ht : ∀ C, ty ≠ .object C) (harr : Cond.arrayClass (newarray.typeOf atype) ∈ lw_tbl) (hg : ln_ok (Cond.arrayClass (newarray.typeOf atype)) = true) (k : Nat) {cB : ClassId} (hk : (ln_ty g)[k]? = some (cB, ty)) (hdf : defaultValue ty = .int 0) (hcb : componentBytes ty ≤ 4) (hP : va_P D ln_cl ws H) (hD : va_D A ws) (hS : va_S A s.heap H locs) (hA : ∀ q, s.heap.size ≤ q → A q)
    (n : Nat) (hn : n < 2 ^ 27) (hcells : cells + 1 ≤ R.cells) (hslots : slots + n ≤ R.slots) (hdg : decode cc pc = .ok (.newarray atype, 2))
    (kk : ∀ (q : Nat) (H1 : Heap), va_P D ln_cl (ws ++ [(q, .inl (cB, n, .inl (fun _ => 0)))]) H1 → va_D A (ws ++ [(q, .inl (cB, n, .inl (fun _ => 0)))]) → va_S A s.heap H1 locs →
      W p l e R s m args below meth c H1 locs (cells + 1) (slots + n) Q (F0 m (pc + 2) ls (.ref q :: rest))) : W p l e R s m args below meth c H locs cells slots Q (F0 m pc ls (.int (nI n) :: rest)) := by
  have hn2 : (nI n).toNatClampNeg = n := by
    show (nI n).toInt.toNat = n
    rw [nI_toInt (by omega)]; rfl
  refine va_newa X.1 X.2.1 (X.ts args harr hg) hty X.2.2.2.2.1 hP hD hS hA (a0 := (n, .inl (fun _ => 0))) (fun cA => by rw [vp_cell_i, hdf]) (by rw [Int32.not_lt]; exact Int32.le_iff_toInt_le.mpr (by rw [nI_toInt (by omega)]; exact Int.natCast_nonneg n)) hn2 (Nat.le_trans (Nat.mul_le_mul_left n hcb) (by omega)) hcells hslots hdg (fun q cA H1 hK1 hP1 hD1 hS1 => ?_)
  have e := ln_cA hK1 hk ht
  subst e
  exact kk q H1 hP1 hD1 hS1
theorem ln_plr {N : Nat} {r : Nat → Nat} {f : Nat → va_E} {e0 : va_E} : va_pl ([] ++ (List.range N).map r) (vr_up f ((List.range N).map r) e0) = (List.range N).map (fun i => (r i, e0)) := by
  unfold va_pl
  rw [List.nil_append, List.map_map]
  apply List.map_congr_left
  intro i hi
  show (r i, vr_up f ((List.range N).map r) e0 (r i)) = (r i, e0)
  rw [vr_up_in (List.mem_map_of_mem hi)]
theorem ln_newM (X : ln_X p R s m c cc nL own D g d) (hO : ln_O s) {ty : FieldType} (hty : ty = .int ∨ ty = .byte) {index : Nat} (hcl : Cond.classLink own index ("[" ++ (FieldType.array ty).toString) ∈ lw_tbl) (harr : Cond.arrayClass ty ∈ lw_tbl) (hok : ln_ok (Cond.arrayClass ty) = true) (k1 k2 : Nat) {cB cO : ClassId} (hk1 : (ln_ty g)[k1]? = some (cB, ty)) (hk2 : (ln_ty g)[k2]? = some (cO, .array ty)) (hP : va_P D ln_cl ws H) (hD : va_D A ws) (hS : va_S A s.heap H locs) (hA : ∀ q, s.heap.size ≤ q → A q)
    (n k : Nat) (hn : n < 2 ^ 20) (hk : k < 2 ^ 20) (hcells : cells + (1 + n) ≤ R.cells) (hslots : slots + (n + n * k) ≤ R.slots) (hdg : decode cc pc = .ok (.multianewarray index 2, 4))
    (kk : ∀ (q : Nat) (r : Nat → Nat) (H1 : Heap), va_P D ln_cl ((ws ++ [(q, .inl (cO, n, .inr (.inr (.inr (.inr (fun i => if i < n then some (r i) else none))))))]) ++ (List.range n).map (fun i => (r i, .inl (cB, k, .inl (fun _ => 0))))) H1 → va_D A ((ws ++ [(q, .inl (cO, n, .inr (.inr (.inr (.inr (fun i => if i < n then some (r i) else none))))))]) ++ (List.range n).map (fun i => (r i, .inl (cB, k, .inl (fun _ => 0))))) → va_S A s.heap H1 locs →
      W p l e R s m args below meth c H1 locs (cells + 1 + n) (slots + n + n * k) Q (F0 m (pc + 4) ls (.ref q :: rest))) : W p l e R s m args below meth c H locs cells slots Q (F0 m pc ls (.int (nI k) :: .int (nI n) :: rest)) := by
  have hc : ∀ {j : Nat}, j < 2 ^ 20 → (nI j).toNatClampNeg = j := fun {j} hj => by
    show (nI j).toInt.toNat = j
    rw [nI_toInt (by omega)]; rfl
  have hnn : ∀ {j : Nat}, j < 2 ^ 20 → ¬ nI j < 0 := fun {j} hj => by rw [Int32.not_lt]; exact Int32.le_iff_toInt_le.mpr (by rw [nI_toInt (by omega)]; exact Int.natCast_nonneg j)
  have hover : va_AOA ty s := by
    rcases hty with rfl | rfl
    · exact hO.1
    · exact hO.2
  have hobj : ∀ C, ty ≠ .object C := by rcases hty with rfl | rfl <;> (intro C h; cases h)
  have hd0 : defaultValue ty = .int 0 := by rcases hty with rfl | rfl <;> rfl
  have hcb : componentBytes ty ≤ 4 := by rcases hty with rfl | rfl <;> decide
  have hRA : s.vm.findClass (FieldType.array ty).toString = some cB := by
    have h1 := (X.2.2.2.2.1.2 k1 _ hk1).2
    rcases hty with rfl | rfl <;> exact h1
  refine va_mna (X := ws) (L := []) (f := fun _ => .inl (cB, k, .inl (fun _ => 0))) (z := (k, .inl (fun _ => 0))) X.1 X.2.1 X.2.2.2.1 (X.ts args hcl rfl) hover (X.ts args harr hok) hRA X.2.2.2.2.1 (by show va_P D ln_cl (ws ++ []) H; rw [List.append_nil]; exact hP) (by show va_D A (ws ++ []); rw [List.append_nil]; exact hD) hS hA (hnn hn) (hnn hk) (hc hn) (hc hk) (by omega) (Nat.le_trans (Nat.mul_le_mul_left k hcb) (by omega)) (by omega) (by rw [hd0]; rcases hty with rfl | rfl <;> rfl) (by rw [hd0]; rfl) hcells hslots (fun c9 => by rw [vp_cell_i, hd0]; exact arrV_new c9 k (.int 0)) hdg (fun q r cA H1 _ _ hK1 hP1 hD1 hS1 => ?_)
  have e := ln_cA hK1 hk2 (fun C h => by cases h)
  subst e
  rw [ln_plr] at hP1 hD1
  exact kk q r H1 hP1 hD1 hS1
theorem ln_pF (X : ln_X p R s m c cc nL own D g d) (hin : meth.name = "<init>") (hP : va_P D ln_cl ws H) (hD : va_D A ws) (hS : va_S A s.heap H locs) (q0 : Nat) {a ci : Nat} {fs : List Value} (he : ws[q0]? = some (a, .inr (ci, fs))) {C : String} {T : u_T} {N : Nat} (hc : ln_cl[ci]? = some (C, T, N)) (hw : ∀ w ∈ u_ws C T N, w ∈ lw_tbl) (ty0 : Nat → FieldType) (hty : ∀ k, k < N → parseFieldDescriptor (T k).2.2.1 = some (ty0 k)) (hnm : ∀ a, a < N → ∀ b, b < N → a ≠ b → (T a).2.1 ≠ (T b).2.1) (k : Nat) (hk : k < N) {index : Nat} (hlink : Cond.fieldLink own index (T k).1 (T k).2.1 (T k).2.2.1 ∈ lw_tbl) (hfin : (T k).2.2.2 = true) (hdecl : (T k).1 = own) {v : Nat} {ty : FieldType} (hd : parseFieldDescriptor (T k).2.2.1 = some ty) (hn : narrow ty (.ref v) = .ref v) (hfit : fits ty (.ref v) = true) (hl : k < fs.length) (hdg : decode cc pc = .ok (.putfield index, 3))
    (kk : ∀ (H1 : Heap) (locs1 : List Loc), va_P D ln_cl (ws.set q0 (a, .inr (ci, fs.set k (.ref v)))) H1 → va_D A (ws.set q0 (a, .inr (ci, fs.set k (.ref v)))) → va_S A s.heap H1 locs1 → W p l e R s m args below meth c H1 locs1 cells slots Q (F0 m (pc + 3) ls rest)) : W p l e R s m args below meth c H locs cells slots Q (F0 m pc ls (.ref v :: .ref a :: rest)) :=
  va_putF X.1 X.2.1 (Ts := u_ws C T N) (ln_lays X hw) (fun _ h => h) ty0 hty hnm X.2.2.2.1 X.2.2.2.2.1 hP hD hS q0 he hc k hk (X.ts args hlink rfl) (fun _ h => h) hfin hin hdecl hd hn hfit hl hdg kk
theorem ln_pI (X : ln_X p R s m c cc nL own D g d) (hP : va_P D ln_cl ws H) (hD : va_D A ws) (hS : va_S A s.heap H locs) (q0 : Nat) {a ci : Nat} {fs : List Value} (he : ws[q0]? = some (a, .inr (ci, fs))) {C : String} {T : u_T} {N : Nat} (hc : ln_cl[ci]? = some (C, T, N)) (hw : ∀ w ∈ u_ws C T N, w ∈ lw_tbl) (ty0 : Nat → FieldType) (hty : ∀ k, k < N → parseFieldDescriptor (T k).2.2.1 = some (ty0 k)) (hnm : ∀ a, a < N → ∀ b, b < N → a ≠ b → (T a).2.1 ≠ (T b).2.1) (k : Nat) (hk : k < N) {index : Nat} (hlink : Cond.fieldLink own index (T k).1 (T k).2.1 (T k).2.2.1 ∈ lw_tbl) (hfin : (T k).2.2.2 = false) {x : Int32} (hd : parseFieldDescriptor (T k).2.2.1 = some .int) (hl : k < fs.length) (hdg : decode cc pc = .ok (.putfield index, 3))
    (kk : ∀ (H1 : Heap) (locs1 : List Loc), va_P D ln_cl (ws.set q0 (a, .inr (ci, fs.set k (.int x)))) H1 → va_D A (ws.set q0 (a, .inr (ci, fs.set k (.int x)))) → va_S A s.heap H1 locs1 → W p l e R s m args below meth c H1 locs1 cells slots Q (F0 m (pc + 3) ls rest)) : W p l e R s m args below meth c H locs cells slots Q (F0 m pc ls (.int x :: .ref a :: rest)) :=
  va_put X.1 X.2.1 (Ts := u_ws C T N) (ln_lays X hw) (fun _ h => h) ty0 hty hnm X.2.2.2.1 X.2.2.2.2.1 hP hD hS q0 he hc k hk (X.ts args hlink rfl) (fun _ h => h) hfin hd rfl rfl hl hdg kk
theorem ln_new (X : ln_X p R s m c cc nL own D g d) (hP : va_P D ln_cl ws H) (hD : va_D A ws) (hS : va_S A s.heap H locs) (hA : ∀ q, s.heap.size ≤ q → A q) {C : String} {T : u_T} {N ci index : Nat} (hc : ln_cl[ci]? = some (C, T, N)) (hw : ∀ w ∈ u_ws C T N, w ∈ lw_tbl) (ty0 : Nat → FieldType) (hty : ∀ k, k < N → parseFieldDescriptor (T k).2.2.1 = some (ty0 k)) (hcl : Cond.classLink own index C ∈ lw_tbl) (hinst : Cond.instantiable C N ∈ lw_tbl) (hini : Cond.initialized C ∈ lw_tbl) {fs : List Value} (hfs : ∀ j, j < N → defaultValue (ty0 j) = vp_V fs j) (hcells : cells + 1 ≤ R.cells) (hslots : slots + N ≤ R.slots) (hdg : decode cc pc = .ok (.new index, 3))
    (kk : ∀ (q : Nat) (H1 : Heap), va_P D ln_cl (ws ++ [(q, .inr (ci, fs))]) H1 → va_D A (ws ++ [(q, .inr (ci, fs))]) → va_S A s.heap H1 locs → W p l e R s m args below meth c H1 locs (cells + 1) (slots + N) Q (F0 m (pc + 3) ls (.ref q :: rest))) : W p l e R s m args below meth c H locs cells slots Q (F0 m pc ls rest) :=
  va_new X.1 X.2.1 (Ts := u_ws C T N) (ln_lays X hw) (fun _ h => h) ty0 hty X.2.2.2.1 (X.ts args hcl rfl) (X.ts args hinst rfl) (X.ts args hini rfl) X.2.2.2.2.1 hP hD hS hA hc hfs hcells hslots hdg kk
/-- behind a constructor: the rest, and what it made -/
theorem ln_joinK {x : Nat × va_E} {w1 : va_W} {H1 : Heap} (hP : va_P D ln_cl (ws ++ [x]) H) (hD : va_D A (ws ++ [x])) (hk : ∀ q : Nat, q < H.size → ¬ va_A [x] H.size q → H1[q]? = H[q]?) (hF : ∀ q, va_A [x] H.size q → A q) (hP1 : va_P D ln_cl w1 H1) (hD1 : va_D (va_A [x] H.size) w1) : va_P D ln_cl (ws ++ w1) H1 ∧ va_D A (ws ++ w1) := by
  have hin : ∀ (k : Nat) (q : Nat × va_E), ws[k]? = some q → k < ws.length ∧ (ws ++ [x])[k]? = some q := fun k q h => by
    have hlt := (List.getElem?_eq_some_iff.mp h).1
    exact ⟨hlt, by rw [List.getElem?_append_left hlt]; exact h⟩
  have hx : (ws ++ [x])[ws.length]? = some x := by simp
  have apart : ∀ (k : Nat) (q : Nat × va_E), ws[k]? = some q → q.1 < H.size ∧ ¬ va_A [x] H.size q.1 := fun k q h => by
    obtain ⟨h1, h2⟩ := hin k q h
    have hl := (hP k q h2).lt
    refine ⟨hl, fun z => ?_⟩
    rcases z with ⟨k2, e9, z⟩ | z
    · have hz : k2 < 1 := (List.getElem?_eq_some_iff.mp z).1
      rw [show k2 = 0 by omega] at z
      have hxe : x = (q.1, e9) := Option.some.inj z
      have := hD.1 k ws.length q x h2 hx (by rw [hxe])
      omega
    · omega
  refine ⟨va_P.app (fun k q hq => (hP k q (hin k q hq).2).kept (hk q.1 (apart k q hq).1 (apart k q hq).2)) hP1, va_D.app ⟨fun i j a b ha hb hab => hD.1 i j a b (hin i a ha).2 (hin j b hb).2 hab, fun k q hq => hD.2 k q (hin k q hq).2⟩ (hD1.weaken (fun k q _ h => hF q.1 h)) (fun i j a b ha hb hab => ?_)⟩
  exact (apart i a ha).2 (by rw [hab]; exact hD1.2 j b hb)
theorem ln_vK (X : ln_X p R s m c cc nL own D g d) (hO : ln_O s) (hA : ∀ q, s.heap.size ≤ q → A q) {y : MethodName} {bytes : ByteArray} {maxL n index d' mc ms b : Nat} {As : List Value} {x : va_E} {Wd : (Nat → Nat) → va_W} {post : (Nat → Nat) → Prop} (hM : ln_K l D g y (.code y bytes maxL none) d' mc ms (.ref b :: As) [(b, x)] Wd post) (hP : va_P D ln_cl (ws ++ [(b, x)]) H) (hD : va_D A (ws ++ [(b, x)])) (hS : va_S A s.heap H locs) (hl : Cond.methodLink own index y ∈ lw_tbl) (hY : ln_YI y bytes maxL n) (hn : As.length = n) (hd : d' + 1 ≤ d) (hls : ls.size = nL) (hst : st = As.reverse ++ .ref b :: rest) (hr : (rest.map fun v => v.category).sum ≤ 8) (hdg : decode cc pc = .ok (.invokespecial index, 3))
    (hf : cells + mc ≤ R.cells ∧ slots + ms ≤ R.slots) (kk : ∀ (u : Nat → Nat) (H1 : Heap) (locs1 : List Loc), post u → va_P D ln_cl (ws ++ Wd u) H1 → va_D A (ws ++ Wd u) → va_S A s.heap H1 locs1 → W p l e R s m args below meth c H1 locs1 (cells + mc) (slots + ms) Q (F0 m (pc + 3) ls rest)) : W p l e R s m args below meth c H locs cells slots Q (F0 m pc ls st) := by
  have hlast : (ws ++ [(b, x)])[ws.length]? = some (b, x) := by simp
  have hfr : ∀ q, va_A [(b, x)] H.size q → A q := fun q h => by
    rcases h with ⟨k, e9, h⟩ | h
    · have hz : k < 1 := (List.getElem?_eq_some_iff.mp h).1
      rw [show k = 0 by omega] at h
      have hxe : (b, x) = (q, e9) := Option.some.inj h
      have h2 := hD.2 _ _ hlast
      rw [hxe] at h2
      exact h2
    · exact hA q (Nat.le_trans hS.1 h)
  have hP0 : va_P D ln_cl [(b, x)] H := fun k q hk => by
    have hz : k < 1 := (List.getElem?_eq_some_iff.mp hk).1
    rw [show k = 0 by omega] at hk
    have hxe : (b, x) = q := Option.some.inj hk
    exact hP ws.length q (by rw [hlast, hxe])
  have hD0 : va_D (fun _ => True) [(b, x)] := ⟨fun i j a9 b9 h1 h2 _ => by
    have z1 : i < 1 := (List.getElem?_eq_some_iff.mp h1).1
    have z2 : j < 1 := (List.getElem?_eq_some_iff.mp h2).1
    omega, fun _ _ _ => trivial⟩
  have hloc : 8 + (maxL + 11) + 60 * d' ≤ R.locals := by
    have := X.2.2.2.2.2.2.2
    have := hY.2.2.2.2.2
    omega
  have cb : CallB R s args own index y bytes maxL none [Cond.code y bytes maxL none] (ln_rk d' mc ms) mc ms n := by
    refine ⟨rfl, rfl, Nat.le_trans hd X.2.2.2.2.2.2.1, hloc, ?_, List.mem_singleton.mpr rfl, X.ts args hY.2.2.2.1 rfl, X.ts args hY.2.2.1 rfl, ⟨hY.2.2.2.2.1.1, hY.2.2.2.2.1.2.1⟩, ?_, X.ts args hl rfl⟩
    · intro w hw a' U hW
      rw [List.mem_singleton.mp hw]
      exact (ln_G.warm hW X.2.2.2.2.2.1) a' _ hY.2.2.2.1 rfl
    · intro sig h
      have h5 := hY.2.2.2.2.1.2.2
      rw [h] at h5
      exact (Option.some.inj h5).symm
  refine va_callv (va_runI (Ts := []) (As := As) (b := b) ⟨X.1, X.2.1, X.2.2.1, X.2.2.2.1, fun _ h => absurd h List.not_mem_nil⟩ (hM H.size) ⟨cb, hY.1, X.ts args hY.2.1 rfl⟩ ⟨ln_blindK, fun U hU hW => ⟨rfl, by rw [hU], by rw [hU]; exact hP0, hD0, va_K.moved hW.alike X.2.2.2.2.1, ln_G.warm hW X.2.2.2.2.2.1, ln_O.moved hW.alike hO⟩⟩ rfl hn hls hst (lv_room hr) hdg hf) hS (fun q _ h => hfr q h) hfr (fun u t H1 locs1 ht hvm hp hB hz hk hS1 => ?_)
  obtain ⟨j1, j2⟩ := ln_joinK hP hD hk hfr (by rw [← ht]; exact hB.1) hB.2
  exact kk u H1 locs1 hp j1 j2 hS1
theorem ln_nK (X : ln_X p R s m c cc nL own D g d) (hO : ln_O s) (hA : ∀ q, s.heap.size ≤ q → A q) {y : MethodName} {bytes : ByteArray} {maxL n index d' mc ms b : Nat} {host : String} {As : List Value} {x : va_E} {Wd : (Nat → Nat) → va_W} {post : (Nat → Nat) → Prop} (hM : ln_K l D g y (.code y bytes maxL none) d' mc ms (.ref b :: As) [(b, x)] Wd post) (hP : va_P D ln_cl (ws ++ [(b, x)]) H) (hD : va_D A (ws ++ [(b, x)])) (hS : va_S A s.heap H locs) (hl : Cond.methodLinkNest own index y host ∈ lw_tbl) (hY : ln_YI y bytes maxL n) (hn : As.length = n) (hd : d' + 1 ≤ d) (hls : ls.size = nL) (hst : st = As.reverse ++ .ref b :: rest) (hr : (rest.map fun v => v.category).sum ≤ 8) (hdg : decode cc pc = .ok (.invokespecial index, 3))
    (hf : cells + mc ≤ R.cells ∧ slots + ms ≤ R.slots) (kk : ∀ (u : Nat → Nat) (H1 : Heap) (locs1 : List Loc), post u → va_P D ln_cl (ws ++ Wd u) H1 → va_D A (ws ++ Wd u) → va_S A s.heap H1 locs1 → W p l e R s m args below meth c H1 locs1 (cells + mc) (slots + ms) Q (F0 m (pc + 3) ls rest)) : W p l e R s m args below meth c H locs cells slots Q (F0 m pc ls st) := by
  have hlast : (ws ++ [(b, x)])[ws.length]? = some (b, x) := by simp
  have hfr : ∀ q, va_A [(b, x)] H.size q → A q := fun q h => by
    rcases h with ⟨k, e9, h⟩ | h
    · have hz : k < 1 := (List.getElem?_eq_some_iff.mp h).1
      rw [show k = 0 by omega] at h
      have hxe : (b, x) = (q, e9) := Option.some.inj h
      have h2 := hD.2 _ _ hlast
      rw [hxe] at h2
      exact h2
    · exact hA q (Nat.le_trans hS.1 h)
  have hP0 : va_P D ln_cl [(b, x)] H := fun k q hk => by
    have hz : k < 1 := (List.getElem?_eq_some_iff.mp hk).1
    rw [show k = 0 by omega] at hk
    have hxe : (b, x) = q := Option.some.inj hk
    exact hP ws.length q (by rw [hlast, hxe])
  have hD0 : va_D (fun _ => True) [(b, x)] := ⟨fun i j a9 b9 h1 h2 _ => by
    have z1 : i < 1 := (List.getElem?_eq_some_iff.mp h1).1
    have z2 : j < 1 := (List.getElem?_eq_some_iff.mp h2).1
    omega, fun _ _ _ => trivial⟩
  have hloc : 8 + (maxL + 11) + 60 * d' ≤ R.locals := by
    have := X.2.2.2.2.2.2.2
    have := hY.2.2.2.2.2
    omega
  have cb : va_CN R s args own index y host bytes maxL none [Cond.code y bytes maxL none] (ln_rk d' mc ms) mc ms n := by
    refine ⟨⟨rfl, rfl, Nat.le_trans hd X.2.2.2.2.2.2.1, hloc, ?_, List.mem_singleton.mpr rfl⟩, X.ts args hY.2.2.2.1 rfl, X.ts args hY.2.2.1 rfl, ⟨hY.2.2.2.2.1.1, hY.2.2.2.2.1.2.1⟩, ?_, X.ts args hl rfl⟩
    · intro w hw a' U hW
      rw [List.mem_singleton.mp hw]
      exact (ln_G.warm hW X.2.2.2.2.2.1) a' _ hY.2.2.2.1 rfl
    · intro sig h
      have h5 := hY.2.2.2.2.1.2.2
      rw [h] at h5
      exact (Option.some.inj h5).symm
  refine va_callv (va_runIN (Ts := []) (As := As) (b := b) ⟨X.1, X.2.1, X.2.2.1, X.2.2.2.1, fun _ h => absurd h List.not_mem_nil⟩ (hM H.size) ⟨cb, hY.1, X.ts args hY.2.1 rfl⟩ ⟨ln_blindK, fun U hU hW => ⟨rfl, by rw [hU], by rw [hU]; exact hP0, hD0, va_K.moved hW.alike X.2.2.2.2.1, ln_G.warm hW X.2.2.2.2.2.1, ln_O.moved hW.alike hO⟩⟩ rfl hn hls hst (lv_room hr) hdg hf) hS (fun q _ h => hfr q h) hfr (fun u t H1 locs1 ht hvm hp hB hz hk hS1 => ?_)
  obtain ⟨j1, j2⟩ := ln_joinK hP hD hk hfr (by rw [← ht]; exact hB.1) hB.2
  exact kk u H1 locs1 hp j1 j2 hS1
end LNK
