def va_AOA (t : FieldType) (U : State) : Prop := (Cond.arrayOver (.array t)).before #[] U = true
theorem va_AOA.use {t : FieldType} {A : Array Value} {U : State} (h : va_AOA t U) : (Cond.arrayOver (.array t)).before A U = true := h
/-! ===== BEGIN new T[n][m]: the outer array a place, the inner ones among the pooled ===== -/
/-- f, but v at every address of l -/
def vr_up {α : Type} (f : Nat → α) (l : List Nat) (v : α) : Nat → α := fun a => if a ∈ l then v else f a
theorem vr_up_in {α : Type} {f : Nat → α} {l : List Nat} {v : α} {a : Nat} (h : a ∈ l) : vr_up f l v a = v := if_pos h
theorem vr_up_ne {α : Type} {f : Nat → α} {l : List Nat} {v : α} {a : Nat} (h : a ∉ l) : vr_up f l v a = f a := if_neg h
theorem vr_rows {L l : List Nat} {f : Nat → va_E} {e : va_E} (h : ∀ a, a ∈ l → a ∉ L) : va_pl L f ++ l.map (fun a => (a, e)) = va_pl (L ++ l) (vr_up f l e) := by
  unfold va_pl
  rw [List.map_append]
  congr 1
  · apply List.map_congr_left
    intro a ha
    rw [vr_up_ne (fun q => h a q ha)]
  · apply List.map_congr_left
    intro a ha
    rw [vr_up_in ha]
theorem vr_lay {X rows : va_W} {x : Nat × va_E} {pl : va_W} {D : va_G} {cl : List vw_C} {H : Heap} (hP : va_P D cl (((X ++ pl) ++ [x]) ++ rows) H) : va_P D cl ((X ++ [x]) ++ (pl ++ rows)) H := by
  rw [List.append_assoc (X ++ pl)] at hP
  have h := va_P.swap hP
  rw [← List.append_assoc X] at h
  have h2 := va_P.swap h
  rw [List.append_assoc (X ++ [x])] at h2
  exact h2
theorem vr_layD {X rows : va_W} {x : Nat × va_E} {pl : va_W} {A : Nat → Prop} (hD : va_D A (((X ++ pl) ++ [x]) ++ rows)) : va_D A ((X ++ [x]) ++ (pl ++ rows)) := by
  rw [List.append_assoc (X ++ pl)] at hD
  have h := va_D.swap hD
  rw [← List.append_assoc X] at h
  have h2 := va_D.swap h
  rw [List.append_assoc (X ++ [x])] at h2
  exact h2
theorem vr_outer (c : ClassId) (N h0 : Nat) : ∀ i : Nat, Jvm.Free.Multi.outerC c N h0 i = arrV c N (fun j => va_rf (if j < i then some (h0 + 1 + j) else none))
  | 0 => by
    show ({ cls := c, slots := Array.replicate N .null, vm := .none } : Cell) = _
    rw [arrV_new]
    refine congrArg (arrV c N) (funext fun j => ?_)
    simp [va_rf]
  | i + 1 => by
    show (Jvm.Free.Multi.outerC c N h0 i).setSlot i (.ref (h0 + 1 + i)) = _
    rw [vr_outer c N h0 i, arrV_store]
    refine congrArg (arrV c N) (funext fun j => ?_)
    by_cases e : j = i
    · subst e
      simp [updV, va_rf]
    · by_cases h : j < i
      · simp [updV, e, h, Nat.lt_succ_of_lt h]
      · simp [updV, e, h, show ¬ j < i + 1 by omega]
section VGM
variable {p : Program} {l : Launch} {e : Env} {R : Room} {s : State} {m : MethodId} {args : Array Value} {below : List Frame} {meth : Method} {c : Code} {H : Heap} {locs : List Loc} {cells slots : Nat} {Q : State → Prop}
variable {cc : ByteArray} {pc : Nat} {ls : Array Slot} {rest : List Value} {D : va_G} {cl : List vw_C} {A : Nat → Prop} {a : Nat} {tys : List (ClassId × FieldType)} {ws : va_W} {H0 : Heap}
theorem va_mna {X : va_W} {L : List Nat} {f : Nat → va_E} {cc : ByteArray} (hexec : p.tables.exec = Jvm.exec) (hb : c.code = cc) {own : String} {index : Nat} {ty : FieldType} {cy : ClassId} (hown : s.vm.findClass own = some m.cls) (hclink : (Cond.classLink own index ("[" ++ (FieldType.array ty).toString)).before args s = true) (hover : va_AOA ty s) (harr : (Cond.arrayClass ty).before args s = true) (hcy : s.vm.findClass (FieldType.array ty).toString = some cy)
    (hK : va_K D cl tys s) (hP : va_P D cl (X ++ va_pl L f) H) (hD : va_D A (X ++ va_pl L f)) (hS : va_S A H0 H locs) (hA : ∀ q, H0.size ≤ q → A q) {n k : Int32} {N' K' : Nat} {z : vp_A} (hn : ¬ n < 0) (hk : ¬ k < 0) (hN : n.toNatClampNeg = N') (hM : k.toNatClampNeg = K')
    (hb1 : N' * 4 ≤ 536870912) (hb2 : K' * componentBytes ty ≤ 536870912) (hb3 : K' ≤ 536870912) (hdf : fits ty (defaultValue ty) = true) (hdd : (defaultValue ty).isDefault = true) (hcells : cells + (1 + N') ≤ R.cells) (hslots : slots + (N' + N' * K') ≤ R.slots) (hz : ∀ c : ClassId, Jvm.Free.Multi.innerC c K' (defaultValue ty) = vp_cell c z) (hdg : decode cc pc = .ok (.multianewarray index 2, 4))
    (kk : ∀ (q : Nat) (r : Nat → Nat) (cA : ClassId) (H1 : Heap), (∀ i j : Nat, i < N' → j < N' → r i = r j → i = j) → (∀ i : Nat, i < N' → r i ∉ L) → va_K D cl (tys ++ [(cA, .array ty)]) s →
      va_P D cl ((X ++ [(q, .inl (cA, N', .inr (.inr (.inr (.inr (fun i => if i < N' then some (r i) else none))))))]) ++ va_pl (L ++ (List.range N').map r) (vr_up f ((List.range N').map r) (.inl (cy, z)))) H1 → va_D A ((X ++ [(q, .inl (cA, N', .inr (.inr (.inr (.inr (fun i => if i < N' then some (r i) else none))))))]) ++ va_pl (L ++ (List.range N').map r) (vr_up f ((List.range N').map r) (.inl (cy, z)))) → va_S A H0 H1 locs →
      W p l e R s m args below meth c H1 locs (cells + 1 + N') (slots + N' + N' * K') Q (F0 m (pc + 4) ls (.ref q :: rest))) : W p l e R s m args below meth c H locs cells slots Q (F0 m pc ls (.int k :: .int n :: rest)) := by
  subst hN
  subst hM
  intro T hT Xs
  obtain ⟨vm₁, cA, comp, -, fA, fC, hO, -, X', step⟩ := Xs.multianewarray2F hexec hown hclink (va_AOA.use hover) harr (g := F0 m pc ls (.int k :: .int n :: rest)) rfl (by rw [hb]; exact hdg) rfl hn hk hb1 hb2 hb3 hdf hdd hcells hslots
  have ec : some cy = some comp := hcy.symm.trans fC
  cases ec
  generalize hF : Jvm.Free.Multi.fill (T.setVm vm₁) cA cy n.toNatClampNeg k.toNatClampNeg (defaultValue ty) n.toNatClampNeg = F at X' step
  have hTh : (T.setVm vm₁).heap = H := hT
  obtain ⟨f1, f2, -, -⟩ := Jvm.Free.Multi.fill_facts (T.setVm vm₁) cA cy n.toNatClampNeg k.toNatClampNeg (defaultValue ty) n.toNatClampNeg
  rw [hF, hTh] at f1 f2
  have hold : ∀ x : Nat, x < H.size → F.heap[x]? = H[x]? := fun x hx => by
    have := Jvm.Free.Multi.fill_old (T.setVm vm₁) cA cy n.toNatClampNeg k.toNatClampNeg (defaultValue ty) (a := x) (by rw [hTh]; exact hx) n.toNatClampNeg
    rw [hF, hTh] at this
    exact this
  have hrow : ∀ j : Nat, j < n.toNatClampNeg → F.heap[H.size + 1 + j]? = some (vp_cell cy z) := fun j hj => by
    have := Jvm.Free.Multi.fill_inner (T.setVm vm₁) cA cy n.toNatClampNeg k.toNatClampNeg (defaultValue ty) n.toNatClampNeg j hj
    rw [hF, hTh, hz] at this
    exact this
  have hout : Jvm.Free.Multi.outerC cA n.toNatClampNeg H.size n.toNatClampNeg = vp_cell cA (n.toNatClampNeg, .inr (.inr (.inr (.inr (fun i => if i < n.toNatClampNeg then some (H.size + 1 + i) else none))))) := by
    rw [vp_cell_q]
    exact vr_outer cA n.toNatClampNeg H.size n.toNatClampNeg
  rw [hout] at f2
  have hlt : ∀ a, a ∈ L → a < H.size := fun a ha => by
    obtain ⟨k9, hk9⟩ := va_pl_get (X := X) (f := f) ha
    exact (hP k9 _ hk9).lt
  have hnl : ∀ i : Nat, i < n.toNatClampNeg → H.size + 1 + i ∉ L := fun i _ h => by
    have := hlt _ h
    omega
  have hnm : ∀ a, a ∈ (List.range n.toNatClampNeg).map (fun i => H.size + 1 + i) → a ∉ L := fun a ha h => by
    obtain ⟨i, -, rfl⟩ := List.mem_map.mp ha
    have := hlt _ h
    omega
  have hP0 : va_P D cl (X ++ va_pl L f) F.heap := hP.kept (fun k9 x hx => hold x.1 ((hP k9 x hx).lt))
  have hP1 : va_P D cl ((X ++ va_pl L f) ++ [(H.size, .inl (cA, n.toNatClampNeg, .inr (.inr (.inr (.inr (fun i => if i < n.toNatClampNeg then some (H.size + 1 + i) else none))))))]) F.heap := hP0.app (fun k9 x hx => by
    have h0 : k9 < 1 := (List.getElem?_eq_some_iff.mp hx).1
    rw [show k9 = 0 by omega] at hx
    cases hx
    exact f2)
  have hP2 : va_P D cl (((X ++ va_pl L f) ++ [(H.size, .inl (cA, n.toNatClampNeg, .inr (.inr (.inr (.inr (fun i => if i < n.toNatClampNeg then some (H.size + 1 + i) else none))))))]) ++ ((List.range n.toNatClampNeg).map (fun i => H.size + 1 + i)).map (fun a => (a, .inl (cy, z)))) F.heap := hP1.app (fun k9 x hx => by
    obtain ⟨a, ha, rfl⟩ := List.mem_map.mp (List.mem_of_getElem? hx)
    obtain ⟨i, hi, rfl⟩ := List.mem_map.mp ha
    exact hrow i (List.mem_range.mp hi))
  have hD2 : va_D A (((X ++ va_pl L f) ++ [(H.size, .inl (cA, n.toNatClampNeg, .inr (.inr (.inr (.inr (fun i => if i < n.toNatClampNeg then some (H.size + 1 + i) else none))))))]) ++ ((List.range n.toNatClampNeg).map (fun i => H.size + 1 + i)).map (fun a => (a, .inl (cy, z)))) := by
    have hD1 := hD.push (e := .inl (cA, n.toNatClampNeg, .inr (.inr (.inr (.inr (fun i => if i < n.toNatClampNeg then some (H.size + 1 + i) else none)))))) hP rfl (hA _ hS.1)
    generalize hW1 : (X ++ va_pl L f) ++ [(H.size, .inl (cA, n.toNatClampNeg, .inr (.inr (.inr (.inr (fun i => if i < n.toNatClampNeg then some (H.size + 1 + i) else none))))))] = W1 at hD1 hP1 ⊢
    have hle : ∀ (k9 : Nat) (x : Nat × va_E), W1[k9]? = some x → x.1 ≤ H.size := fun k9 x hx => by
      rw [← hW1] at hx
      by_cases hl : k9 < (X ++ va_pl L f).length
      · rw [List.getElem?_append_left hl] at hx
        exact Nat.le_of_lt ((hP k9 x hx).lt)
      · rw [List.getElem?_append_right (by omega)] at hx
        have h0 : k9 - (X ++ va_pl L f).length < 1 := (List.getElem?_eq_some_iff.mp hx).1
        rw [show k9 - (X ++ va_pl L f).length = 0 by omega] at hx
        cases hx
        exact Nat.le_refl _
    have hr : ∀ (k9 : Nat) (x : Nat × va_E), (((List.range n.toNatClampNeg).map (fun i => H.size + 1 + i)).map (fun a => ((a, .inl (cy, z)) : Nat × va_E)))[k9]? = some x → x.1 = H.size + 1 + k9 := fun k9 x hx => by
      rw [List.getElem?_map, List.getElem?_map] at hx
      by_cases h9 : k9 < n.toNatClampNeg
      · rw [List.getElem?_range h9] at hx
        cases hx
        rfl
      · have hn0 : (List.range n.toNatClampNeg)[k9]? = none := List.getElem?_eq_none (by rw [List.length_range]; omega)
        rw [hn0] at hx
        cases hx
    refine ⟨fun i j x y hi hj hxy => ?_, fun k9 x hx => ?_⟩
    · by_cases h1 : i < W1.length <;> by_cases h2 : j < W1.length
      · rw [List.getElem?_append_left h1] at hi
        rw [List.getElem?_append_left h2] at hj
        exact hD1.1 i j x y hi hj hxy
      · rw [List.getElem?_append_left h1] at hi
        rw [List.getElem?_append_right (by omega)] at hj
        have := hle _ _ hi
        have := hr _ _ hj
        omega
      · rw [List.getElem?_append_right (by omega)] at hi
        rw [List.getElem?_append_left h2] at hj
        have := hle _ _ hj
        have := hr _ _ hi
        omega
      · rw [List.getElem?_append_right (by omega)] at hi hj
        have := hr _ _ hi
        have := hr _ _ hj
        omega
    · by_cases h1 : k9 < W1.length
      · rw [List.getElem?_append_left h1] at hx
        exact hD1.2 k9 x hx
      · rw [List.getElem?_append_right (by omega)] at hx
        have := hr _ _ hx
        exact hA _ (by have := hS.1; omega)
  have hAr : ArrOfT s cA (.array ty) := fun N9 z9 => by
    obtain ⟨-, k9, hk9, cm9, hkk9⟩ := (hO 0 0 0).1
    exact ⟨(fun q hq => by cases hq), k9, hk9, cm9, hkk9⟩
  have hK2 : va_K D cl (tys ++ [(cA, .array ty)]) s := ⟨hK.1, fun k9 x hx => by
    by_cases hl : k9 < tys.length
    · rw [List.getElem?_append_left hl] at hx
      exact hK.2 k9 x hx
    · rw [List.getElem?_append_right (by omega)] at hx
      have h0 : k9 - tys.length < 1 := (List.getElem?_eq_some_iff.mp hx).1
      rw [show k9 - tys.length = 0 by omega] at hx
      cases hx
      exact ⟨hAr, fA⟩⟩
  obtain ⟨t, a1, b1⟩ := kk H.size (fun i => H.size + 1 + i) cA F.heap (fun i j _ _ h => by have h9 : H.size + 1 + i = H.size + 1 + j := h; omega) hnl hK2 (by rw [← vr_rows hnm]; exact vr_lay hP2) (by rw [← vr_rows hnm]; exact vr_layD hD2) ⟨by rw [f1]; have := hS.1; omega, fun x h1 h2 => (hold x (Nat.lt_of_lt_of_le h1 hS.1)).trans (hS.2.1 x h1 h2), hS.2.2⟩ F rfl X'
  refine ⟨t, step t ?_, b1⟩
  have e : T.heap.size = H.size := by rw [hT]
  rw [e]
  exact a1
end VGM
/-! ===== END ===== -/
def RX0 : String := "LampNet$Burning"
def TX0 : u_T := fun k => match k with
  | 0 => ("LampNet$Burning", "net", "LLampNet$Net;", true)
  | 1 => ("LampNet$Burning", "ticksLeft", "[I", true)
  | _ => ("LampNet$Burning", "ticksVersion", "I", false)
def tyX0 : Nat → FieldType := fun k => match k with
  | 0 => .object "LampNet$Net"
  | 1 => .array .int
  | _ => .int
theorem nmX0 : ∀ a, a < 3 → ∀ b, b < 3 → a ≠ b → (TX0 a).2.1 ≠ (TX0 b).2.1 := by decide +kernel
theorem tyX0_ok : ∀ k, k < 3 → parseFieldDescriptor (TX0 k).2.2.1 = some (tyX0 k) := by decide +kernel
abbrev cX0_init : ByteArray := prog_2_method_1_code
def yX0_init : MethodName := ⟨RX0, "<init>", "(LLampNet$Net;)V"⟩
abbrev cX0_fewestTicks : ByteArray := prog_2_method_2_code
def yX0_fewestTicks : MethodName := ⟨RX0, "fewestTicks", "()I"⟩
abbrev cX0_bestHand : ByteArray := prog_2_method_3_code
def yX0_bestHand : MethodName := ⟨RX0, "bestHand", "(I)I"⟩
abbrev cX0_bestPost : ByteArray := prog_2_method_4_code
def yX0_bestPost : MethodName := ⟨RX0, "bestPost", "(I)I"⟩
abbrev cX0_renewTicks : ByteArray := prog_2_method_5_code
def yX0_renewTicks : MethodName := ⟨RX0, "renewTicks", "()V"⟩
abbrev cX0_ticksByHands : ByteArray := prog_2_method_6_code
def yX0_ticksByHands : MethodName := ⟨RX0, "ticksByHands", "(J)I"⟩
def RX1 : String := "LampNet$Course"
def TX1 : u_T := fun k => match k with
  | 0 => ("LampNet$Course", "net", "LLampNet$Net;", true)
  | 1 => ("LampNet$Course", "spread", "LLampNet$Spread;", true)
  | 2 => ("LampNet$Course", "onAt", "[I", true)
  | _ => ("LampNet$Course", "end", "I", false)
def tyX1 : Nat → FieldType := fun k => match k with
  | 0 => .object "LampNet$Net"
  | 1 => .object "LampNet$Spread"
  | 2 => .array .int
  | _ => .int
theorem nmX1 : ∀ a, a < 4 → ∀ b, b < 4 → a ≠ b → (TX1 a).2.1 ≠ (TX1 b).2.1 := by decide +kernel
theorem tyX1_ok : ∀ k, k < 4 → parseFieldDescriptor (TX1 k).2.2.1 = some (tyX1 k) := by decide +kernel
abbrev cX1_init : ByteArray := prog_3_method_1_code
def yX1_init : MethodName := ⟨RX1, "<init>", "(LLampNet$Net;LLampNet$Spread;)V"⟩
abbrev cX1_follow : ByteArray := prog_3_method_2_code
def yX1_follow : MethodName := ⟨RX1, "follow", "(II)V"⟩
abbrev cX1_onAtEnd : ByteArray := prog_3_method_3_code
def yX1_onAtEnd : MethodName := ⟨RX1, "onAtEnd", "()I"⟩
abbrev cX1_tickOf : ByteArray := prog_3_method_4_code
def yX1_tickOf : MethodName := ⟨RX1, "tickOf", "(I)I"⟩
abbrev cX1_bringersOf : ByteArray := prog_3_method_5_code
def yX1_bringersOf : MethodName := ⟨RX1, "bringersOf", "(II)I"⟩
abbrev cX1_leastForcing : ByteArray := prog_3_method_6_code
def yX1_leastForcing : MethodName := ⟨RX1, "leastForcing", "(II)I"⟩
def RX2 : String := "LampNet$Fire"
def TX2 : u_T := fun k => match k with
  | _ => ("LampNet$Fire", "net", "LLampNet$Net;", true)
def tyX2 : Nat → FieldType := fun k => match k with
  | _ => .object "LampNet$Net"
theorem nmX2 : ∀ a, a < 1 → ∀ b, b < 1 → a ≠ b → (TX2 a).2.1 ≠ (TX2 b).2.1 := by decide +kernel
theorem tyX2_ok : ∀ k, k < 1 → parseFieldDescriptor (TX2 k).2.2.1 = some (tyX2 k) := by decide +kernel
abbrev cX2_init : ByteArray := prog_4_method_1_code
def yX2_init : MethodName := ⟨RX2, "<init>", "(LLampNet$Net;)V"⟩
abbrev cX2_saved : ByteArray := prog_4_method_2_code
def yX2_saved : MethodName := ⟨RX2, "saved", "(I)I"⟩
abbrev cX2_mostSaved : ByteArray := prog_4_method_3_code
def yX2_mostSaved : MethodName := ⟨RX2, "mostSaved", "(III)I"⟩
abbrev cX2_savedBehind : ByteArray := prog_4_method_4_code
def yX2_savedBehind : MethodName := ⟨RX2, "savedBehind", "(III)I"⟩
abbrev cX2_afterTick : ByteArray := prog_4_method_5_code
def yX2_afterTick : MethodName := ⟨RX2, "afterTick", "(II)I"⟩
abbrev cX2_bestWall : ByteArray := prog_4_method_6_code
def yX2_bestWall : MethodName := ⟨RX2, "bestWall", "(II)I"⟩
abbrev cX2_bestPost : ByteArray := prog_4_method_7_code
def yX2_bestPost : MethodName := ⟨RX2, "bestPost", "(II)I"⟩
def RX3 : String := "LampNet$Game"
def TX3 : u_T := fun k => match k with
  | 0 => ("LampNet$Game", "net", "LLampNet$Net;", true)
  | 1 => ("LampNet$Game", "spread", "LLampNet$Spread;", true)
  | 2 => ("LampNet$Game", "wins", "[[B", true)
  | _ => ("LampNet$Game", "winsVersion", "[I", true)
def tyX3 : Nat → FieldType := fun k => match k with
  | 0 => .object "LampNet$Net"
  | 1 => .object "LampNet$Spread"
  | 2 => .array (.array .byte)
  | _ => .array .int
theorem nmX3 : ∀ a, a < 4 → ∀ b, b < 4 → a ≠ b → (TX3 a).2.1 ≠ (TX3 b).2.1 := by decide +kernel
theorem tyX3_ok : ∀ k, k < 4 → parseFieldDescriptor (TX3 k).2.2.1 = some (tyX3 k) := by decide +kernel
abbrev cX3_init : ByteArray := prog_5_method_1_code
def yX3_init : MethodName := ⟨RX3, "<init>", "(LLampNet$Net;LLampNet$Spread;)V"⟩
abbrev cX3_winsOf : ByteArray := prog_5_method_2_code
def yX3_winsOf : MethodName := ⟨RX3, "winsOf", "(I)[B"⟩
abbrev cX3_winningPost : ByteArray := prog_5_method_3_code
def yX3_winningPost : MethodName := ⟨RX3, "winningPost", "([B[II)I"⟩
def RX4 : String := "LampNet$Net"
def TX4 : u_T := fun k => match k with
  | 0 => ("LampNet$Net", "posts", "I", false)
  | 1 => ("LampNet$Net", "roadsVersion", "I", false)
  | 2 => ("LampNet$Net", "barsVersion", "I", false)
  | 3 => ("LampNet$Net", "bars", "[I", true)
  | 4 => ("LampNet$Net", "prices", "[I", true)
  | 5 => ("LampNet$Net", "weights", "[[I", true)
  | 6 => ("LampNet$Net", "behind", "[I", true)
  | _ => ("LampNet$Net", "ahead", "[I", true)
def tyX4 : Nat → FieldType := fun k => match k with
  | 0 => .int
  | 1 => .int
  | 2 => .int
  | 3 => .array .int
  | 4 => .array .int
  | 5 => .array (.array .int)
  | 6 => .array .int
  | _ => .array .int
theorem nmX4 : ∀ a, a < 8 → ∀ b, b < 8 → a ≠ b → (TX4 a).2.1 ≠ (TX4 b).2.1 := by decide +kernel
theorem tyX4_ok : ∀ k, k < 8 → parseFieldDescriptor (TX4 k).2.2.1 = some (tyX4 k) := by decide +kernel
abbrev cX4_init : ByteArray := prog_6_method_1_code
def yX4_init : MethodName := ⟨RX4, "<init>", "()V"⟩
abbrev cX4_isPost : ByteArray := prog_6_method_2_code
def yX4_isPost : MethodName := ⟨RX4, "isPost", "(I)Z"⟩
abbrev cX4_isSet : ByteArray := prog_6_method_3_code
def yX4_isSet : MethodName := ⟨RX4, "isSet", "(I)Z"⟩
abbrev cX4_allPosts : ByteArray := prog_6_method_4_code
def yX4_allPosts : MethodName := ⟨RX4, "allPosts", "()I"⟩
abbrev cX4_versionOf : ByteArray := prog_6_method_5_code
def yX4_versionOf : MethodName := ⟨RX4, "versionOf", "(I)I"⟩
abbrev cX4_addPost : ByteArray := prog_6_method_6_code
def yX4_addPost : MethodName := ⟨RX4, "addPost", "()I"⟩
abbrev cX4_setWeight : ByteArray := prog_6_method_7_code
def yX4_setWeight : MethodName := ⟨RX4, "setWeight", "(III)I"⟩
abbrev cX4_setBar : ByteArray := prog_6_method_8_code
def yX4_setBar : MethodName := ⟨RX4, "setBar", "(II)I"⟩
abbrev cX4_setPrice : ByteArray := prog_6_method_9_code
def yX4_setPrice : MethodName := ⟨RX4, "setPrice", "(II)I"⟩
abbrev cX4_priceOf : ByteArray := prog_6_method_10_code
def yX4_priceOf : MethodName := ⟨RX4, "priceOf", "(I)I"⟩
abbrev cX4_weightOnto : ByteArray := prog_6_method_11_code
def yX4_weightOnto : MethodName := ⟨RX4, "weightOnto", "(II)I"⟩
abbrev cX4_withBehind : ByteArray := prog_6_method_12_code
def yX4_withBehind : MethodName := ⟨RX4, "withBehind", "(I)I"⟩
def RX5 : String := "LampNet$Seeds"
def TX5 : u_T := fun k => match k with
  | _ => ("LampNet$Seeds", "net", "LLampNet$Net;", true)
def tyX5 : Nat → FieldType := fun k => match k with
  | _ => .object "LampNet$Net"
theorem nmX5 : ∀ a, a < 1 → ∀ b, b < 1 → a ≠ b → (TX5 a).2.1 ≠ (TX5 b).2.1 := by decide +kernel
theorem tyX5_ok : ∀ k, k < 1 → parseFieldDescriptor (TX5 k).2.2.1 = some (tyX5 k) := by decide +kernel
abbrev cX5_init : ByteArray := prog_7_method_1_code
def yX5_init : MethodName := ⟨RX5, "<init>", "(LLampNet$Net;)V"⟩
abbrev cX5_smallest : ByteArray := prog_7_method_2_code
def yX5_smallest : MethodName := ⟨RX5, "smallest", "([I)I"⟩
abbrev cX5_howManySmallest : ByteArray := prog_7_method_3_code
def yX5_howManySmallest : MethodName := ⟨RX5, "howManySmallest", "([I)I"⟩
abbrev cX5_leastPriced : ByteArray := prog_7_method_4_code
def yX5_leastPriced : MethodName := ⟨RX5, "leastPriced", "([I)I"⟩
abbrev cX5_paredDown : ByteArray := prog_7_method_5_code
def yX5_paredDown : MethodName := ⟨RX5, "paredDown", "([I)I"⟩
def RX6 : String := "LampNet$Spread"
def TX6 : u_T := fun k => match k with
  | 0 => ("LampNet$Spread", "net", "LLampNet$Net;", true)
  | 1 => ("LampNet$Spread", "ends", "[[I", true)
  | _ => ("LampNet$Spread", "endsVersion", "[I", true)
def tyX6 : Nat → FieldType := fun k => match k with
  | 0 => .object "LampNet$Net"
  | 1 => .array (.array .int)
  | _ => .array .int
theorem nmX6 : ∀ a, a < 3 → ∀ b, b < 3 → a ≠ b → (TX6 a).2.1 ≠ (TX6 b).2.1 := by decide +kernel
theorem tyX6_ok : ∀ k, k < 3 → parseFieldDescriptor (TX6 k).2.2.1 = some (tyX6 k) := by decide +kernel
abbrev cX6_init : ByteArray := prog_8_method_1_code
def yX6_init : MethodName := ⟨RX6, "<init>", "(LLampNet$Net;)V"⟩
abbrev cX6_afterTick : ByteArray := prog_8_method_2_code
def yX6_afterTick : MethodName := ⟨RX6, "afterTick", "(II)I"⟩
abbrev cX6_afterTickOfBars : ByteArray := prog_8_method_3_code
def yX6_afterTickOfBars : MethodName := ⟨RX6, "afterTickOfBars", "(I)I"⟩
abbrev cX6_afterTickOfForced : ByteArray := prog_8_method_4_code
def yX6_afterTickOfForced : MethodName := ⟨RX6, "afterTickOfForced", "(I)I"⟩
abbrev cX6_endsOf : ByteArray := prog_8_method_5_code
def yX6_endsOf : MethodName := ⟨RX6, "endsOf", "(I)[I"⟩
abbrev cX6_fillPlain : ByteArray := prog_8_method_6_code
def yX6_fillPlain : MethodName := ⟨RX6, "fillPlain", "(I)V"⟩
abbrev cX6_fillSeen : ByteArray := prog_8_method_7_code
def yX6_fillSeen : MethodName := ⟨RX6, "fillSeen", "()V"⟩
def RX7 : String := "LampNet$Strongholds"
def TX7 : u_T := fun k => match k with
  | 0 => ("LampNet$Strongholds", "net", "LLampNet$Net;", true)
  | 1 => ("LampNet$Strongholds", "spread", "LLampNet$Spread;", true)
  | 2 => ("LampNet$Strongholds", "most", "[I", true)
  | 3 => ("LampNet$Strongholds", "mostOfAll", "[I", true)
  | _ => ("LampNet$Strongholds", "mostVersion", "[I", true)
def tyX7 : Nat → FieldType := fun k => match k with
  | 0 => .object "LampNet$Net"
  | 1 => .object "LampNet$Spread"
  | 2 => .array .int
  | 3 => .array .int
  | _ => .array .int
theorem nmX7 : ∀ a, a < 5 → ∀ b, b < 5 → a ≠ b → (TX7 a).2.1 ≠ (TX7 b).2.1 := by decide +kernel
theorem tyX7_ok : ∀ k, k < 5 → parseFieldDescriptor (TX7 k).2.2.1 = some (tyX7 k) := by decide +kernel
abbrev cX7_init : ByteArray := prog_9_method_1_code
def yX7_init : MethodName := ⟨RX7, "<init>", "(LLampNet$Net;LLampNet$Spread;)V"⟩
abbrev cX7_isFort : ByteArray := prog_9_method_2_code
def yX7_isFort : MethodName := ⟨RX7, "isFort", "(II)Z"⟩
abbrev cX7_fortsWithin : ByteArray := prog_9_method_3_code
def yX7_fortsWithin : MethodName := ⟨RX7, "fortsWithin", "([II)I"⟩
abbrev cX7_leastFort : ByteArray := prog_9_method_4_code
def yX7_leastFort : MethodName := ⟨RX7, "leastFort", "(II)I"⟩
abbrev cX7_isLeast : ByteArray := prog_9_method_5_code
def yX7_isLeast : MethodName := ⟨RX7, "isLeast", "([II)Z"⟩
abbrev cX7_mostApart : ByteArray := prog_9_method_6_code
def yX7_mostApart : MethodName := ⟨RX7, "mostApart", "(I)I"⟩
abbrev cX7_mostWithin : ByteArray := prog_9_method_7_code
def yX7_mostWithin : MethodName := ⟨RX7, "mostWithin", "([II)I"⟩
abbrev cX7_mostByLowest : ByteArray := prog_9_method_8_code
def yX7_mostByLowest : MethodName := ⟨RX7, "mostByLowest", "([II)I"⟩
def RX8 : String := "LampNet$Watch"
def TX8 : u_T := fun k => match k with
  | 0 => ("LampNet$Watch", "net", "LLampNet$Net;", true)
  | 1 => ("LampNet$Watch", "holding", "[Z", true)
  | _ => ("LampNet$Watch", "holdingVersion", "I", false)
def tyX8 : Nat → FieldType := fun k => match k with
  | 0 => .object "LampNet$Net"
  | 1 => .array .boolean
  | _ => .int
theorem nmX8 : ∀ a, a < 3 → ∀ b, b < 3 → a ≠ b → (TX8 a).2.1 ≠ (TX8 b).2.1 := by decide +kernel
theorem tyX8_ok : ∀ k, k < 3 → parseFieldDescriptor (TX8 k).2.2.1 = some (tyX8 k) := by decide +kernel
abbrev cX8_init : ByteArray := prog_10_method_1_code
def yX8_init : MethodName := ⟨RX8, "<init>", "(LLampNet$Net;)V"⟩
abbrev cX8_freshHolding : ByteArray := prog_10_method_2_code
def yX8_freshHolding : MethodName := ⟨RX8, "freshHolding", "()[Z"⟩
abbrev cX8_fillHolding : ByteArray := prog_10_method_3_code
def yX8_fillHolding : MethodName := ⟨RX8, "fillHolding", "()V"⟩
abbrev cX8_fewestHolding : ByteArray := prog_10_method_4_code
def yX8_fewestHolding : MethodName := ⟨RX8, "fewestHolding", "()I"⟩
abbrev cX8_answerFrom : ByteArray := prog_10_method_5_code
def yX8_answerFrom : MethodName := ⟨RX8, "answerFrom", "(II)I"⟩
abbrev cX8_leastAnswer : ByteArray := prog_10_method_6_code
def yX8_leastAnswer : MethodName := ⟨RX8, "leastAnswer", "(II)I"⟩
abbrev cX8_takeFailingAway : ByteArray := prog_10_method_7_code
def yX8_takeFailingAway : MethodName := ⟨RX8, "takeFailingAway", "(I)Z"⟩
abbrev cX8_answersAll : ByteArray := prog_10_method_8_code
def yX8_answersAll : MethodName := ⟨RX8, "answersAll", "(I)Z"⟩
def RX9 : String := "LampNet"
def TX9 : u_T := fun k => match k with
  | 0 => ("LampNet", "net", "LLampNet$Net;", true)
  | 1 => ("LampNet", "spread", "LLampNet$Spread;", true)
  | 2 => ("LampNet", "course", "LLampNet$Course;", true)
  | 3 => ("LampNet", "seeds", "LLampNet$Seeds;", true)
  | 4 => ("LampNet", "strongholds", "LLampNet$Strongholds;", true)
  | 5 => ("LampNet", "burning", "LLampNet$Burning;", true)
  | 6 => ("LampNet", "fires", "LLampNet$Fire;", true)
  | 7 => ("LampNet", "watch", "LLampNet$Watch;", true)
  | _ => ("LampNet", "game", "LLampNet$Game;", true)
def tyX9 : Nat → FieldType := fun k => match k with
  | 0 => .object "LampNet$Net"
  | 1 => .object "LampNet$Spread"
  | 2 => .object "LampNet$Course"
  | 3 => .object "LampNet$Seeds"
  | 4 => .object "LampNet$Strongholds"
  | 5 => .object "LampNet$Burning"
  | 6 => .object "LampNet$Fire"
  | 7 => .object "LampNet$Watch"
  | _ => .object "LampNet$Game"
theorem nmX9 : ∀ a, a < 9 → ∀ b, b < 9 → a ≠ b → (TX9 a).2.1 ≠ (TX9 b).2.1 := by decide +kernel
theorem tyX9_ok : ∀ k, k < 9 → parseFieldDescriptor (TX9 k).2.2.1 = some (tyX9 k) := by decide +kernel
abbrev cX9_init : ByteArray := prog_1_method_1_code
def yX9_init : MethodName := ⟨RX9, "<init>", "()V"⟩
abbrev cX9_post : ByteArray := prog_1_method_2_code
def yX9_post : MethodName := ⟨RX9, "post", "()I"⟩
abbrev cX9_road : ByteArray := prog_1_method_3_code
def yX9_road : MethodName := ⟨RX9, "road", "(III)I"⟩
abbrev cX9_bar : ByteArray := prog_1_method_4_code
def yX9_bar : MethodName := ⟨RX9, "bar", "(II)I"⟩
abbrev cX9_price : ByteArray := prog_1_method_5_code
def yX9_price : MethodName := ⟨RX9, "price", "(II)I"⟩
abbrev cX9_of : ByteArray := prog_1_method_6_code
def yX9_of : MethodName := ⟨RX9, "of", "(II)I"⟩
abbrev cX9_go : ByteArray := prog_1_method_7_code
def yX9_go : MethodName := ⟨RX9, "go", "(II)I"⟩
abbrev cX9_ticks : ByteArray := prog_1_method_8_code
def yX9_ticks : MethodName := ⟨RX9, "ticks", "(II)I"⟩
abbrev cX9_when : ByteArray := prog_1_method_9_code
def yX9_when : MethodName := ⟨RX9, "when", "(III)I"⟩
abbrev cX9_brought : ByteArray := prog_1_method_10_code
def yX9_brought : MethodName := ⟨RX9, "brought", "(III)I"⟩
abbrev cX9_fort : ByteArray := prog_1_method_11_code
def yX9_fort : MethodName := ⟨RX9, "fort", "(II)I"⟩
abbrev cX9_forts : ByteArray := prog_1_method_12_code
def yX9_forts : MethodName := ⟨RX9, "forts", "(II)I"⟩
abbrev cX9_apart : ByteArray := prog_1_method_13_code
def yX9_apart : MethodName := ⟨RX9, "apart", "(I)I"⟩
abbrev cX9_least : ByteArray := prog_1_method_14_code
def yX9_least : MethodName := ⟨RX9, "least", "(I)I"⟩
abbrev cX9_many : ByteArray := prog_1_method_15_code
def yX9_many : MethodName := ⟨RX9, "many", "(I)I"⟩
abbrev cX9_cheapest : ByteArray := prog_1_method_16_code
def yX9_cheapest : MethodName := ⟨RX9, "cheapest", "(I)I"⟩
abbrev cX9_pared : ByteArray := prog_1_method_17_code
def yX9_pared : MethodName := ⟨RX9, "pared", "(I)I"⟩
abbrev cX9_burn : ByteArray := prog_1_method_18_code
def yX9_burn : MethodName := ⟨RX9, "burn", "()I"⟩
abbrev cX9_hand : ByteArray := prog_1_method_19_code
def yX9_hand : MethodName := ⟨RX9, "hand", "(I)I"⟩
abbrev cX9_burnt : ByteArray := prog_1_method_20_code
def yX9_burnt : MethodName := ⟨RX9, "burnt", "(J)I"⟩
abbrev cX9_save : ByteArray := prog_1_method_21_code
def yX9_save : MethodName := ⟨RX9, "save", "(I)I"⟩
abbrev cX9_wall : ByteArray := prog_1_method_22_code
def yX9_wall : MethodName := ⟨RX9, "wall", "(II)I"⟩
abbrev cX9_holds : ByteArray := prog_1_method_23_code
def yX9_holds : MethodName := ⟨RX9, "holds", "(I)I"⟩
abbrev cX9_guards : ByteArray := prog_1_method_24_code
def yX9_guards : MethodName := ⟨RX9, "guards", "()I"⟩
abbrev cX9_answer : ByteArray := prog_1_method_25_code
def yX9_answer : MethodName := ⟨RX9, "answer", "(II)I"⟩
abbrev cX9_win : ByteArray := prog_1_method_26_code
def yX9_win : MethodName := ⟨RX9, "win", "(II)I"⟩
abbrev cX9_first : ByteArray := prog_1_method_27_code
def yX9_first : MethodName := ⟨RX9, "first", "(II)I"⟩
abbrev cX9_count : ByteArray := prog_1_method_28_code
def yX9_count : MethodName := ⟨RX9, "count", "()I"⟩
abbrev cX9_isRule : ByteArray := prog_1_method_29_code
def yX9_isRule : MethodName := ⟨RX9, "isRule", "(I)Z"⟩
abbrev cX9_isPlainRule : ByteArray := prog_1_method_30_code
def yX9_isPlainRule : MethodName := ⟨RX9, "isPlainRule", "(I)Z"⟩
abbrev cX9_hasPost : ByteArray := prog_1_method_31_code
def yX9_hasPost : MethodName := ⟨RX9, "hasPost", "(II)Z"⟩
def RX10 : String := "LampNetModel"
def TX10 : u_T := fun k => match k with
  | 0 => ("LampNetModel", "posts", "I", false)
  | 1 => ("LampNetModel", "weights", "[I", true)
  | 2 => ("LampNetModel", "bars", "[I", true)
  | 3 => ("LampNetModel", "prices", "[I", true)
  | 4 => ("LampNetModel", "behinds", "[I", true)
  | 5 => ("LampNetModel", "known", "I", false)
  | 6 => ("LampNetModel", "stands", "[I", true)
  | 7 => ("LampNetModel", "end", "I", false)
  | 8 => ("LampNetModel", "ends", "[I", true)
  | 9 => ("LampNetModel", "isLeast", "[Z", true)
  | 10 => ("LampNetModel", "best", "[I", true)
  | 11 => ("LampNetModel", "fewest", "[I", true)
  | 12 => ("LampNetModel", "saved", "[I", true)
  | 13 => ("LampNetModel", "hold", "[Z", true)
  | _ => ("LampNetModel", "wins", "[Z", true)
def tyX10 : Nat → FieldType := fun k => match k with
  | 0 => .int
  | 1 => .array .int
  | 2 => .array .int
  | 3 => .array .int
  | 4 => .array .int
  | 5 => .int
  | 6 => .array .int
  | 7 => .int
  | 8 => .array .int
  | 9 => .array .boolean
  | 10 => .array .int
  | 11 => .array .int
  | 12 => .array .int
  | 13 => .array .boolean
  | _ => .array .boolean
theorem nmX10 : ∀ a, a < 15 → ∀ b, b < 15 → a ≠ b → (TX10 a).2.1 ≠ (TX10 b).2.1 := by decide +kernel
theorem tyX10_ok : ∀ k, k < 15 → parseFieldDescriptor (TX10 k).2.2.1 = some (tyX10 k) := by decide +kernel
abbrev cX10_init : ByteArray := prog_12_method_1_code
def yX10_init : MethodName := ⟨RX10, "<init>", "()V"⟩
abbrev cX10_in : ByteArray := prog_12_method_3_code
def yX10_in : MethodName := ⟨RX10, "in", "(III)Z"⟩
abbrev cX10_isPost : ByteArray := prog_12_method_4_code
def yX10_isPost : MethodName := ⟨RX10, "isPost", "(I)Z"⟩
abbrev cX10_isSet : ByteArray := prog_12_method_5_code
def yX10_isSet : MethodName := ⟨RX10, "isSet", "(I)Z"⟩
abbrev cX10_all : ByteArray := prog_12_method_6_code
def yX10_all : MethodName := ⟨RX10, "all", "()I"⟩
abbrev cX10_has : ByteArray := prog_12_method_7_code
def yX10_has : MethodName := ⟨RX10, "has", "(II)Z"⟩
abbrev cX10_ones : ByteArray := prog_12_method_8_code
def yX10_ones : MethodName := ⟨RX10, "ones", "(I)I"⟩
abbrev cX10_post : ByteArray := prog_12_method_9_code
def yX10_post : MethodName := ⟨RX10, "post", "()I"⟩
abbrev cX10_road : ByteArray := prog_12_method_10_code
def yX10_road : MethodName := ⟨RX10, "road", "(III)I"⟩
abbrev cX10_bar : ByteArray := prog_12_method_11_code
def yX10_bar : MethodName := ⟨RX10, "bar", "(II)I"⟩
abbrev cX10_price : ByteArray := prog_12_method_12_code
def yX10_price : MethodName := ⟨RX10, "price", "(II)I"⟩
abbrev cX10_isKnown : ByteArray := prog_12_method_13_code
def yX10_isKnown : MethodName := ⟨RX10, "isKnown", "(I)Z"⟩
abbrev cX10_behind : ByteArray := prog_12_method_14_code
def yX10_behind : MethodName := ⟨RX10, "behind", "(I)I"⟩
abbrev cX10_ahead : ByteArray := prog_12_method_15_code
def yX10_ahead : MethodName := ⟨RX10, "ahead", "(I)I"⟩
abbrev cX10_of : ByteArray := prog_12_method_16_code
def yX10_of : MethodName := ⟨RX10, "of", "(II)I"⟩
abbrev cX10_allBehind : ByteArray := prog_12_method_17_code
def yX10_allBehind : MethodName := ⟨RX10, "allBehind", "(I)I"⟩
abbrev cX10_tick : ByteArray := prog_12_method_18_code
def yX10_tick : MethodName := ⟨RX10, "tick", "(III)I"⟩
abbrev cX10_runs : ByteArray := prog_12_method_19_code
def yX10_runs : MethodName := ⟨RX10, "runs", "(II)I"⟩
abbrev cX10_endOf : ByteArray := prog_12_method_20_code
def yX10_endOf : MethodName := ⟨RX10, "endOf", "(II)I"⟩
abbrev cX10_isRule : ByteArray := prog_12_method_21_code
def yX10_isRule : MethodName := ⟨RX10, "isRule", "(I)Z"⟩
abbrev cX10_go : ByteArray := prog_12_method_22_code
def yX10_go : MethodName := ⟨RX10, "go", "(II)I"⟩
abbrev cX10_ticks : ByteArray := prog_12_method_23_code
def yX10_ticks : MethodName := ⟨RX10, "ticks", "(II)I"⟩
abbrev cX10_comes : ByteArray := prog_12_method_24_code
def yX10_comes : MethodName := ⟨RX10, "comes", "(I)I"⟩
abbrev cX10_when : ByteArray := prog_12_method_25_code
def yX10_when : MethodName := ⟨RX10, "when", "(III)I"⟩
abbrev cX10_brought : ByteArray := prog_12_method_26_code
def yX10_brought : MethodName := ⟨RX10, "brought", "(III)I"⟩
abbrev cX10_isFort : ByteArray := prog_12_method_27_code
def yX10_isFort : MethodName := ⟨RX10, "isFort", "(II)Z"⟩
abbrev cX10_fort : ByteArray := prog_12_method_28_code
def yX10_fort : MethodName := ⟨RX10, "fort", "(II)I"⟩
abbrev cX10_findForts : ByteArray := prog_12_method_29_code
def yX10_findForts : MethodName := ⟨RX10, "findForts", "(I)V"⟩
abbrev cX10_forts : ByteArray := prog_12_method_30_code
def yX10_forts : MethodName := ⟨RX10, "forts", "(II)I"⟩
abbrev cX10_apart : ByteArray := prog_12_method_31_code
def yX10_apart : MethodName := ⟨RX10, "apart", "(I)I"⟩
abbrev cX10_setsGoing : ByteArray := prog_12_method_32_code
def yX10_setsGoing : MethodName := ⟨RX10, "setsGoing", "(II)Z"⟩
abbrev cX10_least : ByteArray := prog_12_method_33_code
def yX10_least : MethodName := ⟨RX10, "least", "(I)I"⟩
abbrev cX10_many : ByteArray := prog_12_method_34_code
def yX10_many : MethodName := ⟨RX10, "many", "(I)I"⟩
abbrev cX10_cheapest : ByteArray := prog_12_method_35_code
def yX10_cheapest : MethodName := ⟨RX10, "cheapest", "(I)I"⟩
abbrev cX10_pared : ByteArray := prog_12_method_36_code
def yX10_pared : MethodName := ⟨RX10, "pared", "(I)I"⟩
abbrev cX10_burns : ByteArray := prog_12_method_37_code
def yX10_burns : MethodName := ⟨RX10, "burns", "()V"⟩
abbrev cX10_burn : ByteArray := prog_12_method_38_code
def yX10_burn : MethodName := ⟨RX10, "burn", "()I"⟩
abbrev cX10_hand : ByteArray := prog_12_method_39_code
def yX10_hand : MethodName := ⟨RX10, "hand", "(I)I"⟩
abbrev cX10_burnt : ByteArray := prog_12_method_40_code
def yX10_burnt : MethodName := ⟨RX10, "burnt", "(J)I"⟩
abbrev cX10_next : ByteArray := prog_12_method_41_code
def yX10_next : MethodName := ⟨RX10, "next", "(II)I"⟩
abbrev cX10_behindWall : ByteArray := prog_12_method_42_code
def yX10_behindWall : MethodName := ⟨RX10, "behindWall", "(II)I"⟩
abbrev cX10_saves : ByteArray := prog_12_method_43_code
def yX10_saves : MethodName := ⟨RX10, "saves", "()V"⟩
abbrev cX10_save : ByteArray := prog_12_method_44_code
def yX10_save : MethodName := ⟨RX10, "save", "(I)I"⟩
abbrev cX10_wall : ByteArray := prog_12_method_45_code
def yX10_wall : MethodName := ⟨RX10, "wall", "(II)I"⟩
abbrev cX10_answers : ByteArray := prog_12_method_46_code
def yX10_answers : MethodName := ⟨RX10, "answers", "(II)I"⟩
abbrev cX10_guard : ByteArray := prog_12_method_47_code
def yX10_guard : MethodName := ⟨RX10, "guard", "()V"⟩
abbrev cX10_holds : ByteArray := prog_12_method_48_code
def yX10_holds : MethodName := ⟨RX10, "holds", "(I)I"⟩
abbrev cX10_guards : ByteArray := prog_12_method_49_code
def yX10_guards : MethodName := ⟨RX10, "guards", "()I"⟩
abbrev cX10_answer : ByteArray := prog_12_method_50_code
def yX10_answer : MethodName := ⟨RX10, "answer", "(II)I"⟩
abbrev cX10_play : ByteArray := prog_12_method_51_code
def yX10_play : MethodName := ⟨RX10, "play", "(I)V"⟩
abbrev cX10_winsBy : ByteArray := prog_12_method_52_code
def yX10_winsBy : MethodName := ⟨RX10, "winsBy", "(II)I"⟩
abbrev cX10_win : ByteArray := prog_12_method_53_code
def yX10_win : MethodName := ⟨RX10, "win", "(II)I"⟩
abbrev cX10_first : ByteArray := prog_12_method_54_code
def yX10_first : MethodName := ⟨RX10, "first", "(II)I"⟩
abbrev cX10_count : ByteArray := prog_12_method_55_code
def yX10_count : MethodName := ⟨RX10, "count", "()I"⟩
def RJ6 : String := "java/lang/Integer"
def TJ6 : u_T := fun k => match k with
  | _ => ("", "", "", false)
def tyJ6 : Nat → FieldType := fun k => match k with
  | _ => .int
theorem nmJ6 : ∀ a, a < 0 → ∀ b, b < 0 → a ≠ b → (TJ6 a).2.1 ≠ (TJ6 b).2.1 := by decide +kernel
theorem tyJ6_ok : ∀ k, k < 0 → parseFieldDescriptor (TJ6 k).2.2.1 = some (tyJ6 k) := by decide +kernel
abbrev cJ6_bitCount_0f7a4 : ByteArray := prog_13_method_49_code
def yJ6_bitCount_0f7a4 : MethodName := ⟨RJ6, "bitCount", "(I)I"⟩
def RJ9 : String := "java/lang/Math"
def TJ9 : u_T := fun k => match k with
  | _ => ("", "", "", false)
def tyJ9 : Nat → FieldType := fun k => match k with
  | _ => .int
theorem nmJ9 : ∀ a, a < 0 → ∀ b, b < 0 → a ≠ b → (TJ9 a).2.1 ≠ (TJ9 b).2.1 := by decide +kernel
theorem tyJ9_ok : ∀ k, k < 0 → parseFieldDescriptor (TJ9 k).2.2.1 = some (tyJ9 k) := by decide +kernel
abbrev cJ9_max_7cf53 : ByteArray := prog_14_method_65_code
def yJ9_max_7cf53 : MethodName := ⟨RJ9, "max", "(II)I"⟩
abbrev cJ9_min_7cf53 : ByteArray := prog_14_method_69_code
def yJ9_min_7cf53 : MethodName := ⟨RJ9, "min", "(II)I"⟩
def RL : String := "LampNetLaw"
abbrev cL_law : ByteArray := code
def yL_law : MethodName := ⟨RL, "law", "([I)Z"⟩
