/-! calls, entries and ends -/
def ln_Y (y : MethodName) (bytes : ByteArray) (maxL n : Nat) (ret : Option FieldType) (C : String) : Prop := Cond.instanceMethod y ∈ lw_tbl ∧ Cond.selects C y y ∈ lw_tbl ∧ Cond.initialized y.cls ∈ lw_tbl ∧ Cond.code y bytes maxL ret ∈ lw_tbl ∧ ln_yn y n ∧ maxL ≤ 40
def ln_Z (y : MethodName) (bytes : ByteArray) (maxL n : Nat) (ret : Option FieldType) : Prop := Cond.static y ∈ lw_tbl ∧ Cond.initialized y.cls ∈ lw_tbl ∧ Cond.code y bytes maxL ret ∈ lw_tbl ∧ ln_yn y n ∧ maxL ≤ 40
section LNC
variable {p : Program} {l : Launch} {e : Env} {R : Room} {s : State} {m : MethodId} {args : Array Value} {below : List Frame} {meth : Method} {c : Code} {H : Heap} {locs : List Loc} {cells slots : Nat} {Q : State → Prop}
variable {cc : ByteArray} {nL : Nat} {own : String} {D : va_G} {g : Nat → ClassId} {d : Nat} {pc : Nat} {ls : Array Slot} {rest st : List Value}
theorem ln_nil : va_P D ln_cl [] H := fun k q h => by simp at h
theorem ln_cb (X : ln_X p R s m c cc nL own D g d) {y : MethodName} {bytes : ByteArray} {maxL n index d' : Nat} {ret : Option FieldType} (h1 : Cond.initialized y.cls ∈ lw_tbl) (h2 : Cond.code y bytes maxL ret ∈ lw_tbl) (h3 : ln_yn y n) (h4 : maxL ≤ 40) (hd : d' + 1 ≤ d) (hl : Cond.methodLink own index y ∈ lw_tbl) :
    CallB R s args own index y bytes maxL ret [Cond.code y bytes maxL ret] (ln_rm d') 0 0 n := by
  refine ⟨rfl, rfl, Nat.le_trans hd X.2.2.2.2.2.2.1, ?_, ?_, List.mem_singleton.mpr rfl, X.ts args h2 rfl, X.ts args h1 rfl, ⟨h3.1, h3.2.1⟩, ?_, X.ts args hl rfl⟩
  · have := X.2.2.2.2.2.2.2
    show 8 + (maxL + 11) + 60 * d' ≤ R.locals
    omega
  · intro w hw a' U hW
    rw [List.mem_singleton.mp hw]
    exact (ln_G.warm hW X.2.2.2.2.2.1) a' _ h2 rfl
  · intro sig h
    have h5 := h3.2.2
    rw [h] at h5
    exact (Option.some.inj h5).symm
theorem ln_vR (X : ln_X p R s m c cc nL own D g d) {y : MethodName} {bytes : ByteArray} {maxL n index d' b : Nat} {ret : Option FieldType} {As : List Value} {ws : va_W} {post : Int32 → Prop} (hM : ln_R l D g ws y (.code y bytes maxL ret) d' (.ref b :: As) post) (hP : va_P D ln_cl ws H) (q0 : Nat) {ci : Nat} {r : vw_C} {fs : List Value} (he : ws[q0]? = some (b, .inr (ci, fs))) (hc : ln_cl[ci]? = some r) (hl : Cond.methodLink own index y ∈ lw_tbl) (hY : ln_Y y bytes maxL n ret r.1) (hn : As.length = n) (hd : d' + 1 ≤ d) (hls : ls.size = nL) (hst : st = As.reverse ++ .ref b :: rest) (hr : (rest.map fun v => v.category).sum ≤ 8) (hdg : decode cc pc = .ok (.invokevirtual index, 3))
    (hf : cells ≤ R.cells ∧ slots ≤ R.slots) (kk : ∀ r : Int32, post r → W p l e R s m args below meth c H locs cells slots Q (F0 m (pc + 3) ls (.int r :: rest))) : W p l e R s m args below meth c H locs cells slots Q (F0 m pc ls st) :=
  vp_callSi (W.runV (Ts := []) (As := As) ⟨X.1, X.2.1, X.2.2.1, X.2.2.2.1, fun _ h => absurd h List.not_mem_nil⟩ hM ⟨ln_cb X hY.2.2.1 hY.2.2.2.1 hY.2.2.2.2.1 hY.2.2.2.2.2 hd hl, X.ts args hY.1 rfl, X.ts args hY.2.1 rfl⟩ ⟨ln_blind, va_recv X.2.2.2.2.1 hP hc he, fun U hU hW => ⟨rfl, by rw [hU]; exact hP, va_K.moved hW.alike X.2.2.2.2.1, ln_G.warm hW X.2.2.2.2.2.1⟩⟩ rfl hn hls hst (lv_room hr) hdg hf) kk
theorem ln_sR (X : ln_X p R s m c cc nL own D g d) {y : MethodName} {bytes : ByteArray} {maxL n index d' : Nat} {ret : Option FieldType} {As : List Value} {ws : va_W} {post : Int32 → Prop} (hM : ln_R l D g ws y (.code y bytes maxL ret) d' As post) (hP : va_P D ln_cl ws H) (hl : Cond.methodLink own index y ∈ lw_tbl) (hY : ln_Z y bytes maxL n ret) (hn : As.length = n) (hd : d' + 1 ≤ d) (hls : ls.size = nL) (hst : st = As.reverse ++ rest) (hr : (rest.map fun v => v.category).sum ≤ 8) (hdg : decode cc pc = .ok (.invokestatic index, 3))
    (hf : cells ≤ R.cells ∧ slots ≤ R.slots) (kk : ∀ r : Int32, post r → W p l e R s m args below meth c H locs cells slots Q (F0 m (pc + 3) ls (.int r :: rest))) : W p l e R s m args below meth c H locs cells slots Q (F0 m pc ls st) :=
  vp_callSi (W.runS (Ts := []) (As := As) ⟨X.1, X.2.1, X.2.2.1, X.2.2.2.1, fun _ h => absurd h List.not_mem_nil⟩ hM ⟨ln_cb X hY.2.1 hY.2.2.1 hY.2.2.2.1 hY.2.2.2.2 hd hl, X.ts args hY.1 rfl⟩ ⟨ln_blind, fun U hU hW => ⟨rfl, by rw [hU]; exact hP, va_K.moved hW.alike X.2.2.2.2.1, ln_G.warm hW X.2.2.2.2.2.1⟩⟩ rfl hn hls hst (lv_room hr) hdg hf) kk
theorem ln_nR (X : ln_X p R s m c cc nL own D g d) {y : MethodName} {bytes : ByteArray} {maxL n index d' : Nat} {ret : Option FieldType} {host : String} {As : List Value} {ws : va_W} {post : Int32 → Prop} (hM : ln_R l D g ws y (.code y bytes maxL ret) d' As post) (hP : va_P D ln_cl ws H) (hl : Cond.methodLinkNest own index y host ∈ lw_tbl) (hY : ln_Z y bytes maxL n ret) (hn : As.length = n) (hd : d' + 1 ≤ d) (hls : ls.size = nL) (hst : st = As.reverse ++ rest) (hr : (rest.map fun v => v.category).sum ≤ 8) (hdg : decode cc pc = .ok (.invokestatic index, 3))
    (hf : cells ≤ R.cells ∧ slots ≤ R.slots) (kk : ∀ r : Int32, post r → W p l e R s m args below meth c H locs cells slots Q (F0 m (pc + 3) ls (.int r :: rest))) : W p l e R s m args below meth c H locs cells slots Q (F0 m pc ls st) := by
  have hloc : 8 + (maxL + 11) + 60 * d' ≤ R.locals := by
    have := X.2.2.2.2.2.2.2
    have := hY.2.2.2.2
    omega
  have hrun := va_runSN (Ts := []) (As := As) (rest := rest) (H := H) (locs := locs) (cells := cells) (slots := slots) (e := e) (below := below) (meth := meth) (g := F0 m pc ls st) (args := args) (R := R) (nL := nL) (maxL := maxL) (n := n) (index := index) (host := host) ⟨X.1, X.2.1, X.2.2.1, X.2.2.2.1, fun _ h => absurd h List.not_mem_nil⟩ hM
    ⟨⟨⟨rfl, rfl, Nat.le_trans hd X.2.2.2.2.2.2.1, hloc, (fun w hw a' U hW => by rw [List.mem_singleton.mp hw]; exact (ln_G.warm hW X.2.2.2.2.2.1) a' _ hY.2.2.1 rfl), List.mem_singleton.mpr rfl⟩, X.ts args hY.2.2.1 rfl, X.ts args hY.2.1 rfl, ⟨hY.2.2.2.1.1, hY.2.2.2.1.2.1⟩, (fun sig h => by have h5 := hY.2.2.2.1.2.2; rw [h] at h5; exact (Option.some.inj h5).symm), X.ts args hl rfl⟩, X.ts args hY.1 rfl, trivial⟩
    ⟨ln_blind, fun U hU hW => ⟨rfl, by rw [hU]; exact hP, va_K.moved hW.alike X.2.2.2.2.1, ln_G.warm hW X.2.2.2.2.2.1⟩⟩ rfl hn hls hst (lv_room hr) hdg hf
  intro T hT Xs
  obtain ⟨v, st₀, t, T', L, h0, X', hL, e1, e2, ⟨r, hv, hp, hh⟩, stp⟩ := hrun T hT Xs
  cases hv
  obtain ⟨t2, a1, b1⟩ := kk r hp T' (by rw [e1, hh, h0]) (Stand.forget X' (fun q h => (hL q h).elim))
  exact ⟨t2, stp t2 a1, b1⟩
/-- a writer is called by a writer over the same world -/
theorem ln_vU (X : ln_X p R s m c cc nL own D g d) {Wd : ln_S → va_W} (had : ln_ad Wd) {σ : ln_S} {A : Nat → Prop} (hA : ∀ q, s.heap.size ≤ q → A q) {y : MethodName} {bytes : ByteArray} {maxL n index d' b : Nat} {ret : Option FieldType} {As : List Value} {post : Int32 → ln_S → Prop} (hM : ln_U l D g Wd y (.code y bytes maxL ret) d' (.ref b :: As) σ post) (hP : va_P D ln_cl (Wd σ) H) (hD : va_D A (Wd σ)) (hS : va_S A s.heap H locs) (q0 : Nat) {ci : Nat} {r : vw_C} {fs : List Value} (he : (Wd σ)[q0]? = some (b, .inr (ci, fs))) (hc : ln_cl[ci]? = some r) (hl : Cond.methodLink own index y ∈ lw_tbl) (hY : ln_Y y bytes maxL n ret r.1) (hn : As.length = n) (hd : d' + 1 ≤ d) (hls : ls.size = nL) (hst : st = As.reverse ++ .ref b :: rest) (hr : (rest.map fun v => v.category).sum ≤ 8) (hdg : decode cc pc = .ok (.invokevirtual index, 3))
    (hf : cells ≤ R.cells ∧ slots ≤ R.slots) (kk : ∀ (r : Int32) (τ : ln_S) (H1 : Heap) (locs1 : List Loc), post r τ → va_P D ln_cl (Wd τ) H1 → va_D A (Wd τ) → va_S A s.heap H1 locs1 → W p l e R s m args below meth c H1 locs1 cells slots Q (F0 m (pc + 3) ls (.int r :: rest))) : W p l e R s m args below meth c H locs cells slots Q (F0 m pc ls st) := by
  have hfr : ∀ q, va_A (Wd σ) H.size q → A q := fun q h => by
    rcases h with ⟨k, e9, h⟩ | h
    · exact hD.2 k _ h
    · exact hA q (Nat.le_trans hS.1 h)
  refine va_calli (va_runV (Ts := []) (As := As) ⟨X.1, X.2.1, X.2.2.1, X.2.2.2.1, fun _ h => absurd h List.not_mem_nil⟩ (hM H.size) ⟨ln_cb X hY.2.2.1 hY.2.2.2.1 hY.2.2.2.2.1 hY.2.2.2.2.2 hd hl, X.ts args hY.1 rfl, X.ts args hY.2.1 rfl⟩ ⟨ln_blindU, va_recv X.2.2.2.2.1 hP hc he, fun U hU hW => ⟨rfl, by rw [hU], by rw [hU]; exact hP, hD.weaken (fun _ _ _ _ => trivial), va_K.moved hW.alike X.2.2.2.2.1, ln_G.warm hW X.2.2.2.2.2.1⟩⟩ rfl hn hls hst (lv_room hr) hdg hf) hS (fun q _ h => hfr q h) hfr (fun r τ t H1 locs1 ht hvm hp hB hz hk hS1 => ?_)
  exact kk r τ H1 locs1 hp (by rw [← ht]; exact hB) (had.D hD) hS1
theorem ln_vV (X : ln_X p R s m c cc nL own D g d) {Wd : ln_S → va_W} (had : ln_ad Wd) {σ : ln_S} {A : Nat → Prop} (hA : ∀ q, s.heap.size ≤ q → A q) {y : MethodName} {bytes : ByteArray} {maxL n index d' b : Nat} {ret : Option FieldType} {As : List Value} {post : ln_S → Prop} (hM : ln_V l D g Wd y (.code y bytes maxL ret) d' (.ref b :: As) σ post) (hP : va_P D ln_cl (Wd σ) H) (hD : va_D A (Wd σ)) (hS : va_S A s.heap H locs) (q0 : Nat) {ci : Nat} {r : vw_C} {fs : List Value} (he : (Wd σ)[q0]? = some (b, .inr (ci, fs))) (hc : ln_cl[ci]? = some r) (hl : Cond.methodLink own index y ∈ lw_tbl) (hY : ln_Y y bytes maxL n ret r.1) (hn : As.length = n) (hd : d' + 1 ≤ d) (hls : ls.size = nL) (hst : st = As.reverse ++ .ref b :: rest) (hr : (rest.map fun v => v.category).sum ≤ 8) (hdg : decode cc pc = .ok (.invokevirtual index, 3))
    (hf : cells ≤ R.cells ∧ slots ≤ R.slots) (kk : ∀ (τ : ln_S) (H1 : Heap) (locs1 : List Loc), post τ → va_P D ln_cl (Wd τ) H1 → va_D A (Wd τ) → va_S A s.heap H1 locs1 → W p l e R s m args below meth c H1 locs1 cells slots Q (F0 m (pc + 3) ls rest)) : W p l e R s m args below meth c H locs cells slots Q (F0 m pc ls st) := by
  have hfr : ∀ q, va_A (Wd σ) H.size q → A q := fun q h => by
    rcases h with ⟨k, e9, h⟩ | h
    · exact hD.2 k _ h
    · exact hA q (Nat.le_trans hS.1 h)
  refine va_callv (va_runV (Ts := []) (As := As) ⟨X.1, X.2.1, X.2.2.1, X.2.2.2.1, fun _ h => absurd h List.not_mem_nil⟩ (hM H.size) ⟨ln_cb X hY.2.2.1 hY.2.2.2.1 hY.2.2.2.2.1 hY.2.2.2.2.2 hd hl, X.ts args hY.1 rfl, X.ts args hY.2.1 rfl⟩ ⟨ln_blindU, va_recv X.2.2.2.2.1 hP hc he, fun U hU hW => ⟨rfl, by rw [hU], by rw [hU]; exact hP, hD.weaken (fun _ _ _ _ => trivial), va_K.moved hW.alike X.2.2.2.2.1, ln_G.warm hW X.2.2.2.2.2.1⟩⟩ rfl hn hls hst (lv_room hr) hdg hf) hS (fun q _ h => hfr q h) hfr (fun τ t H1 locs1 ht hvm hp hB hz hk hS1 => ?_)
  exact kk τ H1 locs1 hp (by rw [← ht]; exact hB) (had.D hD) hS1
theorem ln_vF (X : ln_X p R s m c cc nL own D g d) {Wd : ln_S → va_W} (had : ln_ad Wd) {σ : ln_S} {A : Nat → Prop} (hA : ∀ q, s.heap.size ≤ q → A q) {y : MethodName} {bytes : ByteArray} {maxL n index d' b ad : Nat} {ret : Option FieldType} {As : List Value} {post : ln_S → Prop} (hM : ln_F l D g Wd y (.code y bytes maxL ret) d' (.ref b :: As) σ ad post) (hP : va_P D ln_cl (Wd σ) H) (hD : va_D A (Wd σ)) (hS : va_S A s.heap H locs) (q0 : Nat) {ci : Nat} {r : vw_C} {fs : List Value} (he : (Wd σ)[q0]? = some (b, .inr (ci, fs))) (hc : ln_cl[ci]? = some r) (hl : Cond.methodLink own index y ∈ lw_tbl) (hY : ln_Y y bytes maxL n ret r.1) (hn : As.length = n) (hd : d' + 1 ≤ d) (hls : ls.size = nL) (hst : st = As.reverse ++ .ref b :: rest) (hr : (rest.map fun v => v.category).sum ≤ 8) (hdg : decode cc pc = .ok (.invokevirtual index, 3))
    (hf : cells ≤ R.cells ∧ slots ≤ R.slots) (kk : ∀ (τ : ln_S) (H1 : Heap) (locs1 : List Loc), post τ → va_P D ln_cl (Wd τ) H1 → va_D A (Wd τ) → va_S A s.heap H1 locs1 → W p l e R s m args below meth c H1 locs1 cells slots Q (F0 m (pc + 3) ls (.ref ad :: rest))) : W p l e R s m args below meth c H locs cells slots Q (F0 m pc ls st) := by
  have hfr : ∀ q, va_A (Wd σ) H.size q → A q := fun q h => by
    rcases h with ⟨k, e9, h⟩ | h
    · exact hD.2 k _ h
    · exact hA q (Nat.le_trans hS.1 h)
  refine va_callr (va_runV (Ts := []) (As := As) ⟨X.1, X.2.1, X.2.2.1, X.2.2.2.1, fun _ h => absurd h List.not_mem_nil⟩ (hM H.size) ⟨ln_cb X hY.2.2.1 hY.2.2.2.1 hY.2.2.2.2.1 hY.2.2.2.2.2 hd hl, X.ts args hY.1 rfl, X.ts args hY.2.1 rfl⟩ ⟨ln_blindU, va_recv X.2.2.2.2.1 hP hc he, fun U hU hW => ⟨rfl, by rw [hU], by rw [hU]; exact hP, hD.weaken (fun _ _ _ _ => trivial), va_K.moved hW.alike X.2.2.2.2.1, ln_G.warm hW X.2.2.2.2.2.1⟩⟩ rfl hn hls hst (lv_room hr) hdg hf) hS (fun q _ h => hfr q h) hfr (fun τ t a1 H1 locs1 ht hvm hp hB hz hk hS1 => ?_)
  obtain ⟨hB1, hB2⟩ := hB
  subst hB1
  exact kk τ H1 locs1 hp (by rw [← ht]; exact hB2) (had.D hD) hS1
/-- a reader's body -/
theorem ln_ofR {y : MethodName} {ret : Option FieldType} {ws : va_W} {av : List Value} {post : Int32 → Prop} (hy : plainName y.cls = true) (hlen : (lg_sl av).length ≤ nL)
    (body : ∀ (p : Program) (e : Env) (R : Room) (s : State) (m : MethodId) (args : Array Value) (below : List Frame) (meth : Method) (c : Code) (ls : Array Slot), meth.sig.returnType = ret → meth.locks = false → ln_X p R s m c cc nL y.cls D g d → va_P D ln_cl ws s.heap → lv_has ls nL (lv_args 0 av) →
      W p l e R s m args below meth c s.heap [] 0 0 (MQ below (vp_Si post) args s 0 0 (fun _ => False)) (F0 m 0 ls [])) : ln_R l D g ws y (.code y cc nL ret) d av post := by
  refine Met.ofW (cc := cc) (maxL := nL) (ret := ret) hy rfl ?_
  intro p e s m args below meth c s₁ B hml hv
  obtain ⟨rfl, hP, hK, hG⟩ := hv
  rw [lg_entry_eq]
  exact body p e _ s m _ below meth c _ B.returns B.notSynchronized ⟨B.exec, B.bytes, hml, findClass_of_methodNamed B.named, hK, hG, Nat.le_refl d, Nat.le_refl (60 * d)⟩ hP (lv_entry av hlen)
theorem ln_retR {post : Int32 → Prop} {v : Int32} {ty : FieldType} (X : ln_X p R s m c cc nL own D g d) (hr : meth.sig.returnType = some ty) (hlk : meth.locks = false) (hn : narrow ty (.int v) = .int v) (hp : post v) (hdg : decode cc pc = .ok (.ireturn, 1)) : W p l e R s m args below meth c s.heap [] 0 0 (MQ below (vp_Si post) args s 0 0 (fun _ => False)) (F0 m pc ls [.int v]) :=
  W.zret X.1 X.2.1 hr hn (fun t ht hW => ⟨v, rfl, hp, ht⟩) (fun q h => absurd h List.not_mem_nil) hdg hlk
theorem ln_ofU {y : MethodName} {ret : Option FieldType} {Wd : ln_S → va_W} {σ : ln_S} {av : List Value} {post : Int32 → ln_S → Prop} (hy : plainName y.cls = true) (hlen : (lg_sl av).length ≤ nL)
    (body : ∀ (p : Program) (e : Env) (R : Room) (s : State) (m : MethodId) (args : Array Value) (below : List Frame) (meth : Method) (c : Code) (ls : Array Slot) (A : Nat → Prop), meth.sig.returnType = ret → meth.locks = false → ln_X p R s m c cc nL y.cls D g d → (∀ q, s.heap.size ≤ q → A q) → va_P D ln_cl (Wd σ) s.heap → va_D A (Wd σ) → va_S A s.heap s.heap [] → lv_has ls nL (lv_args 0 av) →
      W p l e R s m args below meth c s.heap [] 0 0 (MQ below (va_Qi post (fun τ t => va_P D ln_cl (Wd τ) t.heap) A) args s 0 0 A) (F0 m 0 ls [])) : ln_U l D g Wd y (.code y cc nL ret) d av σ post := by
  intro sz
  refine Met.ofW (cc := cc) (maxL := nL) (ret := ret) hy rfl ?_
  intro p e s m args below meth c s₁ B hml hv
  obtain ⟨rfl, hsz, hP, hD, hK, hG⟩ := hv
  subst hsz
  rw [lg_entry_eq]
  exact body p e _ s m _ below meth c _ _ B.returns B.notSynchronized ⟨B.exec, B.bytes, hml, findClass_of_methodNamed B.named, hK, hG, Nat.le_refl d, Nat.le_refl (60 * d)⟩ (fun q h => Or.inr h) hP hD.self va_S.rf (lv_entry av hlen)
theorem ln_retU {Wd : ln_S → va_W} {τ : ln_S} {A : Nat → Prop} {post : Int32 → ln_S → Prop} {v : Int32} {ty : FieldType} (X : ln_X p R s m c cc nL own D g d) (hr : meth.sig.returnType = some ty) (hlk : meth.locks = false) (hP : va_P D ln_cl (Wd τ) H) (hS : va_S A s.heap H locs) (hn : narrow ty (.int v) = .int v) (hp : post v τ) (hdg : decode cc pc = .ok (.ireturn, 1)) : W p l e R s m args below meth c H locs 0 0 (MQ below (va_Qi post (fun τ t => va_P D ln_cl (Wd τ) t.heap) A) args s 0 0 A) (F0 m pc ls [.int v]) :=
  W.zret X.1 X.2.1 hr hn (fun t ht hW => ⟨⟨v, τ, rfl, hp, by show va_P D ln_cl (Wd τ) t.heap; rw [ht]; exact hP⟩, hS.F ht⟩) hS.2.2 hdg hlk
theorem ln_ofV {y : MethodName} {Wd : ln_S → va_W} {σ : ln_S} {av : List Value} {post : ln_S → Prop} (hy : plainName y.cls = true) (hlen : (lg_sl av).length ≤ nL)
    (body : ∀ (p : Program) (e : Env) (R : Room) (s : State) (m : MethodId) (args : Array Value) (below : List Frame) (meth : Method) (c : Code) (ls : Array Slot) (A : Nat → Prop), meth.sig.returnType = none → meth.locks = false → ln_X p R s m c cc nL y.cls D g d → (∀ q, s.heap.size ≤ q → A q) → va_P D ln_cl (Wd σ) s.heap → va_D A (Wd σ) → va_S A s.heap s.heap [] → lv_has ls nL (lv_args 0 av) →
      W p l e R s m args below meth c s.heap [] 0 0 (MQ below (va_Qv post (fun τ t => va_P D ln_cl (Wd τ) t.heap) A) args s 0 0 A) (F0 m 0 ls [])) : ln_V l D g Wd y (.code y cc nL none) d av σ post := by
  intro sz
  refine Met.ofW (cc := cc) (maxL := nL) (ret := none) hy rfl ?_
  intro p e s m args below meth c s₁ B hml hv
  obtain ⟨rfl, hsz, hP, hD, hK, hG⟩ := hv
  subst hsz
  rw [lg_entry_eq]
  exact body p e _ s m _ below meth c _ _ B.returns B.notSynchronized ⟨B.exec, B.bytes, hml, findClass_of_methodNamed B.named, hK, hG, Nat.le_refl d, Nat.le_refl (60 * d)⟩ (fun q h => Or.inr h) hP hD.self va_S.rf (lv_entry av hlen)
theorem ln_retV {Wd : ln_S → va_W} {τ : ln_S} {A : Nat → Prop} {post : ln_S → Prop} (X : ln_X p R s m c cc nL own D g d) (hr : meth.sig.returnType = none) (hlk : meth.locks = false) (hP : va_P D ln_cl (Wd τ) H) (hS : va_S A s.heap H locs) (hp : post τ) (hdg : decode cc pc = .ok (.return_, 1)) : W p l e R s m args below meth c H locs 0 0 (MQ below (va_Qv post (fun τ t => va_P D ln_cl (Wd τ) t.heap) A) args s 0 0 A) (F0 m pc ls []) :=
  W.vret X.1 X.2.1 hr (fun t ht hW => ⟨⟨τ, rfl, hp, by show va_P D ln_cl (Wd τ) t.heap; rw [ht]; exact hP⟩, hS.F ht⟩) hS.2.2 hdg hlk
theorem ln_ofF {y : MethodName} {ret : Option FieldType} {Wd : ln_S → va_W} {σ : ln_S} {av : List Value} {ad : Nat} {post : ln_S → Prop} (hy : plainName y.cls = true) (hlen : (lg_sl av).length ≤ nL)
    (body : ∀ (p : Program) (e : Env) (R : Room) (s : State) (m : MethodId) (args : Array Value) (below : List Frame) (meth : Method) (c : Code) (ls : Array Slot) (A : Nat → Prop), meth.sig.returnType = ret → meth.locks = false → ln_X p R s m c cc nL y.cls D g d → (∀ q, s.heap.size ≤ q → A q) → va_P D ln_cl (Wd σ) s.heap → va_D A (Wd σ) → va_S A s.heap s.heap [] → lv_has ls nL (lv_args 0 av) →
      W p l e R s m args below meth c s.heap [] 0 0 (MQ below (va_Qr post (fun τ a t => a = ad ∧ va_P D ln_cl (Wd τ) t.heap) A) args s 0 0 A) (F0 m 0 ls [])) : ln_F l D g Wd y (.code y cc nL ret) d av σ ad post := by
  intro sz
  refine Met.ofW (cc := cc) (maxL := nL) (ret := ret) hy rfl ?_
  intro p e s m args below meth c s₁ B hml hv
  obtain ⟨rfl, hsz, hP, hD, hK, hG⟩ := hv
  subst hsz
  rw [lg_entry_eq]
  exact body p e _ s m _ below meth c _ _ B.returns B.notSynchronized ⟨B.exec, B.bytes, hml, findClass_of_methodNamed B.named, hK, hG, Nat.le_refl d, Nat.le_refl (60 * d)⟩ (fun q h => Or.inr h) hP hD.self va_S.rf (lv_entry av hlen)
theorem ln_retF {Wd : ln_S → va_W} {τ : ln_S} {A : Nat → Prop} {ad : Nat} {post : ln_S → Prop} {ty : FieldType} (X : ln_X p R s m c cc nL own D g d) (hr : meth.sig.returnType = some (.array ty)) (hlk : meth.locks = false) (hP : va_P D ln_cl (Wd τ) H) (hS : va_S A s.heap H locs) (hp : post τ) (hdg : decode cc pc = .ok (.areturn, 1)) : W p l e R s m args below meth c H locs 0 0 (MQ below (va_Qr post (fun τ a t => a = ad ∧ va_P D ln_cl (Wd τ) t.heap) A) args s 0 0 A) (F0 m pc ls [.ref ad]) :=
  W.aret X.1 X.2.1 hr (Or.inr ⟨ty, rfl⟩) (Or.inr ⟨ad, rfl⟩) (fun t ht hW => ⟨⟨τ, ad, rfl, hp, rfl, by show va_P D ln_cl (Wd τ) t.heap; rw [ht]; exact hP⟩, hS.F ht⟩) hS.2.2 hdg hlk
end LNC
