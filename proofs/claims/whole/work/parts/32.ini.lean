theorem df_X0 : ∀ j, j < 3 → defaultValue (tyX0 j) = vp_V [.null, .null, .int 0] j := by
  intro j hj
  rcases (show j = 0 ∨ j = 1 ∨ j = 2 by omega) with rfl | rfl | rfl <;> rfl
theorem YI_X0 : ln_YI yX0_init cX0_init 2 1 := ⟨rfl, mV_X0_init, mI_X0, mC_X0_init, ⟨by decide +kernel, by decide +kernel, by decide +kernel⟩, by decide⟩
theorem df_X1 : ∀ j, j < 4 → defaultValue (tyX1 j) = vp_V [.null, .null, .null, .int 0] j := by
  intro j hj
  rcases (show j = 0 ∨ j = 1 ∨ j = 2 ∨ j = 3 by omega) with rfl | rfl | rfl | rfl <;> rfl
theorem YI_X1 : ln_YI yX1_init cX1_init 3 2 := ⟨rfl, mV_X1_init, mI_X1, mC_X1_init, ⟨by decide +kernel, by decide +kernel, by decide +kernel⟩, by decide⟩
theorem df_X2 : ∀ j, j < 1 → defaultValue (tyX2 j) = vp_V [.null] j := by
  intro j hj
  obtain rfl : j = 0 := by omega
  rfl
theorem YI_X2 : ln_YI yX2_init cX2_init 2 1 := ⟨rfl, mV_X2_init, mI_X2, mC_X2_init, ⟨by decide +kernel, by decide +kernel, by decide +kernel⟩, by decide⟩
theorem df_X3 : ∀ j, j < 4 → defaultValue (tyX3 j) = vp_V [.null, .null, .null, .null] j := by
  intro j hj
  rcases (show j = 0 ∨ j = 1 ∨ j = 2 ∨ j = 3 by omega) with rfl | rfl | rfl | rfl <;> rfl
theorem YI_X3 : ln_YI yX3_init cX3_init 3 2 := ⟨rfl, mV_X3_init, mI_X3, mC_X3_init, ⟨by decide +kernel, by decide +kernel, by decide +kernel⟩, by decide⟩
theorem df_X4 : ∀ j, j < 8 → defaultValue (tyX4 j) = vp_V [.int 0, .int 0, .int 0, .null, .null, .null, .null, .null] j := by
  intro j hj
  rcases (show j = 0 ∨ j = 1 ∨ j = 2 ∨ j = 3 ∨ j = 4 ∨ j = 5 ∨ j = 6 ∨ j = 7 by omega) with rfl | rfl | rfl | rfl | rfl | rfl | rfl | rfl <;> rfl
theorem YI_X4 : ln_YI yX4_init cX4_init 1 0 := ⟨rfl, mV_X4_init, mI_X4, mC_X4_init, ⟨by decide +kernel, by decide +kernel, by decide +kernel⟩, by decide⟩
theorem df_X5 : ∀ j, j < 1 → defaultValue (tyX5 j) = vp_V [.null] j := by
  intro j hj
  obtain rfl : j = 0 := by omega
  rfl
theorem YI_X5 : ln_YI yX5_init cX5_init 2 1 := ⟨rfl, mV_X5_init, mI_X5, mC_X5_init, ⟨by decide +kernel, by decide +kernel, by decide +kernel⟩, by decide⟩
theorem df_X6 : ∀ j, j < 3 → defaultValue (tyX6 j) = vp_V [.null, .null, .null] j := by
  intro j hj
  rcases (show j = 0 ∨ j = 1 ∨ j = 2 by omega) with rfl | rfl | rfl <;> rfl
theorem YI_X6 : ln_YI yX6_init cX6_init 2 1 := ⟨rfl, mV_X6_init, mI_X6, mC_X6_init, ⟨by decide +kernel, by decide +kernel, by decide +kernel⟩, by decide⟩
theorem df_X7 : ∀ j, j < 5 → defaultValue (tyX7 j) = vp_V [.null, .null, .null, .null, .null] j := by
  intro j hj
  rcases (show j = 0 ∨ j = 1 ∨ j = 2 ∨ j = 3 ∨ j = 4 by omega) with rfl | rfl | rfl | rfl | rfl <;> rfl
theorem YI_X7 : ln_YI yX7_init cX7_init 3 2 := ⟨rfl, mV_X7_init, mI_X7, mC_X7_init, ⟨by decide +kernel, by decide +kernel, by decide +kernel⟩, by decide⟩
theorem df_X8 : ∀ j, j < 3 → defaultValue (tyX8 j) = vp_V [.null, .null, .int 0] j := by
  intro j hj
  rcases (show j = 0 ∨ j = 1 ∨ j = 2 by omega) with rfl | rfl | rfl <;> rfl
theorem YI_X8 : ln_YI yX8_init cX8_init 2 1 := ⟨rfl, mV_X8_init, mI_X8, mC_X8_init, ⟨by decide +kernel, by decide +kernel, by decide +kernel⟩, by decide⟩
theorem df_X9 : ∀ j, j < 9 → defaultValue (tyX9 j) = vp_V [.null, .null, .null, .null, .null, .null, .null, .null, .null] j := by
  intro j hj
  rcases (show j = 0 ∨ j = 1 ∨ j = 2 ∨ j = 3 ∨ j = 4 ∨ j = 5 ∨ j = 6 ∨ j = 7 ∨ j = 8 by omega) with rfl | rfl | rfl | rfl | rfl | rfl | rfl | rfl | rfl <;> rfl
theorem YI_X9 : ln_YI yX9_init cX9_init 1 0 := ⟨rfl, mV_X9_init, mI_X9, mC_X9_init, ⟨by decide +kernel, by decide +kernel, by decide +kernel⟩, by decide⟩
theorem df_X10 : ∀ j, j < 15 → defaultValue (tyX10 j) = vp_V [.int 0, .null, .null, .null, .null, .int 0, .null, .int 0, .null, .null, .null, .null, .null, .null, .null] j := by
  intro j hj
  rcases (show j = 0 ∨ j = 1 ∨ j = 2 ∨ j = 3 ∨ j = 4 ∨ j = 5 ∨ j = 6 ∨ j = 7 ∨ j = 8 ∨ j = 9 ∨ j = 10 ∨ j = 11 ∨ j = 12 ∨ j = 13 ∨ j = 14 by omega) with rfl | rfl | rfl | rfl | rfl | rfl | rfl | rfl | rfl | rfl | rfl | rfl | rfl | rfl | rfl <;> rfl
theorem YI_X10 : ln_YI yX10_init cX10_init 1 0 := ⟨rfl, mV_X10_init, mI_X10, mC_X10_init, ⟨by decide +kernel, by decide +kernel, by decide +kernel⟩, by decide⟩
theorem ln_bbI : "[" ++ (FieldType.array .int).toString = "[[I" := by decide +kernel
theorem ln_bbB : "[" ++ (FieldType.array .byte).toString = "[[B" := by decide +kernel
def wd_X4 (g : Nat → ClassId) (h0 : Nat) (b : Nat → Nat) : va_W := [(h0, .inr (4, [.int 0, .int (nI 1), .int 0, .ref (b 0), .ref (b 1), .ref (b 2), .ref (b 3), .ref (b 4)])), (b 0, .inl (g 0, 12, .inl (fun _ => 0))), (b 1, .inl (g 0, 12, .inl (fun _ => 0))), (b 2, .inl (g 3, 12, .inr (.inr (.inr (.inr (fun i => if i < 12 then some (b (5 + i)) else none)))))), (b 5, .inl (g 0, 12, .inl (fun _ => 0))), (b 6, .inl (g 0, 12, .inl (fun _ => 0))), (b 7, .inl (g 0, 12, .inl (fun _ => 0))), (b 8, .inl (g 0, 12, .inl (fun _ => 0))), (b 9, .inl (g 0, 12, .inl (fun _ => 0))), (b 10, .inl (g 0, 12, .inl (fun _ => 0))), (b 11, .inl (g 0, 12, .inl (fun _ => 0))), (b 12, .inl (g 0, 12, .inl (fun _ => 0))), (b 13, .inl (g 0, 12, .inl (fun _ => 0))), (b 14, .inl (g 0, 12, .inl (fun _ => 0))), (b 15, .inl (g 0, 12, .inl (fun _ => 0))), (b 16, .inl (g 0, 12, .inl (fun _ => 0))), (b 3, .inl (g 0, 12, .inl (fun _ => 0))), (b 4, .inl (g 0, 12, .inl (fun _ => 0)))]
set_option maxHeartbeats 4000000 in
set_option maxRecDepth 100000 in
theorem c_X4_init (l : Launch) (D : va_G) (g : Nat → ClassId) (h0 : Nat) (d : Nat) (hd1 : 1 ≤ d) : ln_K l D g yX4_init (.code yX4_init cX4_init 1 none) d 17 204 [.ref h0] [(h0, .inr (4, [.int 0, .int 0, .int 0, .null, .null, .null, .null, .null]))] (wd_X4 g h0) (fun _ => True) := by
  refine ln_ofK (by decide +kernel) rfl (Nat.le_of_ble_eq_true rfl) (fun prg env sta mid args below meth cod ls A hr hlk hnm X hO hA hP hD hSw hl => ?_)
  have hl : lv_has ls 1 [(0, .ref h0)] := hl
  generalize hQ0 : (MQ below (va_Qv (fun _ => True) (fun (b : Nat → Nat) t => va_P D ln_cl (wd_X4 g h0 b) t.heap ∧ va_D A (wd_X4 g h0 b)) A) args sta 17 204 A) = Q0
  refine lv_aload_n X.1 X.2.1 dX4_init_0 rfl (lv_at hl 0 rfl) ?_
  refine ln_objI X hd1 mM_X4_3 hl.1 (Nat.le_of_ble_eq_true rfl) dX4_init_1 ?_
  refine lv_aload_n X.1 X.2.1 dX4_init_4 rfl (lv_at hl 0 rfl) ?_
  refine lv_iconst (v := nI 1) X.1 X.2.1 dX4_init_5 (by decide) ?_
  refine ln_pI X hP hD hSw 0 rfl rfl kl_X4 tyX4 tyX4_ok nmX4 1 (by decide) mF_X4_9 rfl (tyX4_ok 1 (by decide)) (Nat.le_of_ble_eq_true rfl) dX4_init_6 (fun H locs hP hD hSw => ?_)
  have hP : va_P D ln_cl [(h0, .inr (4, [.int 0, .int (nI 1), .int 0, .null, .null, .null, .null, .null]))] H := hP
  have hD : va_D A [(h0, .inr (4, [.int 0, .int (nI 1), .int 0, .null, .null, .null, .null, .null]))] := hD
  refine lv_aload_n X.1 X.2.1 dX4_init_9 rfl (lv_at hl 0 rfl) ?_
  refine lv_bipush (v := nI 12) X.1 X.2.1 dX4_init_10 (by decide) ?_
  refine ln_newA X (atype := .int) (ty := .int) rfl (fun C h => by cases h) mA_int rfl 0 rfl rfl (by decide) hP hD hSw hA 12 (by decide) (Nat.le_of_ble_eq_true rfl) (Nat.le_of_ble_eq_true rfl) dX4_init_12 (fun q1 H hP hD hSw => ?_)
  have hP : va_P D ln_cl [(h0, .inr (4, [.int 0, .int (nI 1), .int 0, .null, .null, .null, .null, .null])), (q1, .inl (g 0, 12, .inl (fun _ => 0)))] H := hP
  have hD : va_D A [(h0, .inr (4, [.int 0, .int (nI 1), .int 0, .null, .null, .null, .null, .null])), (q1, .inl (g 0, 12, .inl (fun _ => 0)))] := hD
  refine ln_pF X hnm hP hD hSw 0 rfl rfl kl_X4 tyX4 tyX4_ok nmX4 3 (by decide) mF_X4_15 rfl rfl (tyX4_ok 3 (by decide)) rfl rfl (Nat.le_of_ble_eq_true rfl) dX4_init_14 (fun H locs hP hD hSw => ?_)
  have hP : va_P D ln_cl [(h0, .inr (4, [.int 0, .int (nI 1), .int 0, .ref q1, .null, .null, .null, .null])), (q1, .inl (g 0, 12, .inl (fun _ => 0)))] H := hP
  have hD : va_D A [(h0, .inr (4, [.int 0, .int (nI 1), .int 0, .ref q1, .null, .null, .null, .null])), (q1, .inl (g 0, 12, .inl (fun _ => 0)))] := hD
  refine lv_aload_n X.1 X.2.1 dX4_init_17 rfl (lv_at hl 0 rfl) ?_
  refine lv_bipush (v := nI 12) X.1 X.2.1 dX4_init_18 (by decide) ?_
  refine ln_newA X (atype := .int) (ty := .int) rfl (fun C h => by cases h) mA_int rfl 0 rfl rfl (by decide) hP hD hSw hA 12 (by decide) (Nat.le_of_ble_eq_true rfl) (Nat.le_of_ble_eq_true rfl) dX4_init_20 (fun q2 H hP hD hSw => ?_)
  have hP : va_P D ln_cl [(h0, .inr (4, [.int 0, .int (nI 1), .int 0, .ref q1, .null, .null, .null, .null])), (q1, .inl (g 0, 12, .inl (fun _ => 0))), (q2, .inl (g 0, 12, .inl (fun _ => 0)))] H := hP
  have hD : va_D A [(h0, .inr (4, [.int 0, .int (nI 1), .int 0, .ref q1, .null, .null, .null, .null])), (q1, .inl (g 0, 12, .inl (fun _ => 0))), (q2, .inl (g 0, 12, .inl (fun _ => 0)))] := hD
  refine ln_pF X hnm hP hD hSw 0 rfl rfl kl_X4 tyX4 tyX4_ok nmX4 4 (by decide) mF_X4_19 rfl rfl (tyX4_ok 4 (by decide)) rfl rfl (Nat.le_of_ble_eq_true rfl) dX4_init_22 (fun H locs hP hD hSw => ?_)
  have hP : va_P D ln_cl [(h0, .inr (4, [.int 0, .int (nI 1), .int 0, .ref q1, .ref q2, .null, .null, .null])), (q1, .inl (g 0, 12, .inl (fun _ => 0))), (q2, .inl (g 0, 12, .inl (fun _ => 0)))] H := hP
  have hD : va_D A [(h0, .inr (4, [.int 0, .int (nI 1), .int 0, .ref q1, .ref q2, .null, .null, .null])), (q1, .inl (g 0, 12, .inl (fun _ => 0))), (q2, .inl (g 0, 12, .inl (fun _ => 0)))] := hD
  refine lv_aload_n X.1 X.2.1 dX4_init_25 rfl (lv_at hl 0 rfl) ?_
  refine lv_bipush (v := nI 12) X.1 X.2.1 dX4_init_26 (by decide) ?_
  refine lv_bipush (v := nI 12) X.1 X.2.1 dX4_init_28 (by decide) ?_
  refine ln_newM X hO (ty := .int) (Or.inl rfl) (by rw [ln_bbI]; exact mL_X4_22) mA_int rfl 0 3 rfl rfl hP hD hSw hA 12 12 (by decide) (by decide) (Nat.le_of_ble_eq_true rfl) (Nat.le_of_ble_eq_true rfl) dX4_init_30 (fun q3 r H hP hD hSw => ?_)
  have hP : va_P D ln_cl [(h0, .inr (4, [.int 0, .int (nI 1), .int 0, .ref q1, .ref q2, .null, .null, .null])), (q1, .inl (g 0, 12, .inl (fun _ => 0))), (q2, .inl (g 0, 12, .inl (fun _ => 0))), (q3, .inl (g 3, 12, .inr (.inr (.inr (.inr (fun i => if i < 12 then some (r i) else none)))))), (r 0, .inl (g 0, 12, .inl (fun _ => 0))), (r 1, .inl (g 0, 12, .inl (fun _ => 0))), (r 2, .inl (g 0, 12, .inl (fun _ => 0))), (r 3, .inl (g 0, 12, .inl (fun _ => 0))), (r 4, .inl (g 0, 12, .inl (fun _ => 0))), (r 5, .inl (g 0, 12, .inl (fun _ => 0))), (r 6, .inl (g 0, 12, .inl (fun _ => 0))), (r 7, .inl (g 0, 12, .inl (fun _ => 0))), (r 8, .inl (g 0, 12, .inl (fun _ => 0))), (r 9, .inl (g 0, 12, .inl (fun _ => 0))), (r 10, .inl (g 0, 12, .inl (fun _ => 0))), (r 11, .inl (g 0, 12, .inl (fun _ => 0)))] H := hP
  have hD : va_D A [(h0, .inr (4, [.int 0, .int (nI 1), .int 0, .ref q1, .ref q2, .null, .null, .null])), (q1, .inl (g 0, 12, .inl (fun _ => 0))), (q2, .inl (g 0, 12, .inl (fun _ => 0))), (q3, .inl (g 3, 12, .inr (.inr (.inr (.inr (fun i => if i < 12 then some (r i) else none)))))), (r 0, .inl (g 0, 12, .inl (fun _ => 0))), (r 1, .inl (g 0, 12, .inl (fun _ => 0))), (r 2, .inl (g 0, 12, .inl (fun _ => 0))), (r 3, .inl (g 0, 12, .inl (fun _ => 0))), (r 4, .inl (g 0, 12, .inl (fun _ => 0))), (r 5, .inl (g 0, 12, .inl (fun _ => 0))), (r 6, .inl (g 0, 12, .inl (fun _ => 0))), (r 7, .inl (g 0, 12, .inl (fun _ => 0))), (r 8, .inl (g 0, 12, .inl (fun _ => 0))), (r 9, .inl (g 0, 12, .inl (fun _ => 0))), (r 10, .inl (g 0, 12, .inl (fun _ => 0))), (r 11, .inl (g 0, 12, .inl (fun _ => 0)))] := hD
  refine ln_pF X hnm hP hD hSw 0 rfl rfl kl_X4 tyX4 tyX4_ok nmX4 5 (by decide) mF_X4_24 rfl rfl (tyX4_ok 5 (by decide)) rfl rfl (Nat.le_of_ble_eq_true rfl) dX4_init_34 (fun H locs hP hD hSw => ?_)
  have hP : va_P D ln_cl [(h0, .inr (4, [.int 0, .int (nI 1), .int 0, .ref q1, .ref q2, .ref q3, .null, .null])), (q1, .inl (g 0, 12, .inl (fun _ => 0))), (q2, .inl (g 0, 12, .inl (fun _ => 0))), (q3, .inl (g 3, 12, .inr (.inr (.inr (.inr (fun i => if i < 12 then some (r i) else none)))))), (r 0, .inl (g 0, 12, .inl (fun _ => 0))), (r 1, .inl (g 0, 12, .inl (fun _ => 0))), (r 2, .inl (g 0, 12, .inl (fun _ => 0))), (r 3, .inl (g 0, 12, .inl (fun _ => 0))), (r 4, .inl (g 0, 12, .inl (fun _ => 0))), (r 5, .inl (g 0, 12, .inl (fun _ => 0))), (r 6, .inl (g 0, 12, .inl (fun _ => 0))), (r 7, .inl (g 0, 12, .inl (fun _ => 0))), (r 8, .inl (g 0, 12, .inl (fun _ => 0))), (r 9, .inl (g 0, 12, .inl (fun _ => 0))), (r 10, .inl (g 0, 12, .inl (fun _ => 0))), (r 11, .inl (g 0, 12, .inl (fun _ => 0)))] H := hP
  have hD : va_D A [(h0, .inr (4, [.int 0, .int (nI 1), .int 0, .ref q1, .ref q2, .ref q3, .null, .null])), (q1, .inl (g 0, 12, .inl (fun _ => 0))), (q2, .inl (g 0, 12, .inl (fun _ => 0))), (q3, .inl (g 3, 12, .inr (.inr (.inr (.inr (fun i => if i < 12 then some (r i) else none)))))), (r 0, .inl (g 0, 12, .inl (fun _ => 0))), (r 1, .inl (g 0, 12, .inl (fun _ => 0))), (r 2, .inl (g 0, 12, .inl (fun _ => 0))), (r 3, .inl (g 0, 12, .inl (fun _ => 0))), (r 4, .inl (g 0, 12, .inl (fun _ => 0))), (r 5, .inl (g 0, 12, .inl (fun _ => 0))), (r 6, .inl (g 0, 12, .inl (fun _ => 0))), (r 7, .inl (g 0, 12, .inl (fun _ => 0))), (r 8, .inl (g 0, 12, .inl (fun _ => 0))), (r 9, .inl (g 0, 12, .inl (fun _ => 0))), (r 10, .inl (g 0, 12, .inl (fun _ => 0))), (r 11, .inl (g 0, 12, .inl (fun _ => 0)))] := hD
  refine lv_aload_n X.1 X.2.1 dX4_init_37 rfl (lv_at hl 0 rfl) ?_
  refine lv_bipush (v := nI 12) X.1 X.2.1 dX4_init_38 (by decide) ?_
  refine ln_newA X (atype := .int) (ty := .int) rfl (fun C h => by cases h) mA_int rfl 0 rfl rfl (by decide) hP hD hSw hA 12 (by decide) (Nat.le_of_ble_eq_true rfl) (Nat.le_of_ble_eq_true rfl) dX4_init_40 (fun q4 H hP hD hSw => ?_)
  have hP : va_P D ln_cl [(h0, .inr (4, [.int 0, .int (nI 1), .int 0, .ref q1, .ref q2, .ref q3, .null, .null])), (q1, .inl (g 0, 12, .inl (fun _ => 0))), (q2, .inl (g 0, 12, .inl (fun _ => 0))), (q3, .inl (g 3, 12, .inr (.inr (.inr (.inr (fun i => if i < 12 then some (r i) else none)))))), (r 0, .inl (g 0, 12, .inl (fun _ => 0))), (r 1, .inl (g 0, 12, .inl (fun _ => 0))), (r 2, .inl (g 0, 12, .inl (fun _ => 0))), (r 3, .inl (g 0, 12, .inl (fun _ => 0))), (r 4, .inl (g 0, 12, .inl (fun _ => 0))), (r 5, .inl (g 0, 12, .inl (fun _ => 0))), (r 6, .inl (g 0, 12, .inl (fun _ => 0))), (r 7, .inl (g 0, 12, .inl (fun _ => 0))), (r 8, .inl (g 0, 12, .inl (fun _ => 0))), (r 9, .inl (g 0, 12, .inl (fun _ => 0))), (r 10, .inl (g 0, 12, .inl (fun _ => 0))), (r 11, .inl (g 0, 12, .inl (fun _ => 0))), (q4, .inl (g 0, 12, .inl (fun _ => 0)))] H := hP
  have hD : va_D A [(h0, .inr (4, [.int 0, .int (nI 1), .int 0, .ref q1, .ref q2, .ref q3, .null, .null])), (q1, .inl (g 0, 12, .inl (fun _ => 0))), (q2, .inl (g 0, 12, .inl (fun _ => 0))), (q3, .inl (g 3, 12, .inr (.inr (.inr (.inr (fun i => if i < 12 then some (r i) else none)))))), (r 0, .inl (g 0, 12, .inl (fun _ => 0))), (r 1, .inl (g 0, 12, .inl (fun _ => 0))), (r 2, .inl (g 0, 12, .inl (fun _ => 0))), (r 3, .inl (g 0, 12, .inl (fun _ => 0))), (r 4, .inl (g 0, 12, .inl (fun _ => 0))), (r 5, .inl (g 0, 12, .inl (fun _ => 0))), (r 6, .inl (g 0, 12, .inl (fun _ => 0))), (r 7, .inl (g 0, 12, .inl (fun _ => 0))), (r 8, .inl (g 0, 12, .inl (fun _ => 0))), (r 9, .inl (g 0, 12, .inl (fun _ => 0))), (r 10, .inl (g 0, 12, .inl (fun _ => 0))), (r 11, .inl (g 0, 12, .inl (fun _ => 0))), (q4, .inl (g 0, 12, .inl (fun _ => 0)))] := hD
  refine ln_pF X hnm hP hD hSw 0 rfl rfl kl_X4 tyX4 tyX4_ok nmX4 6 (by decide) mF_X4_27 rfl rfl (tyX4_ok 6 (by decide)) rfl rfl (Nat.le_of_ble_eq_true rfl) dX4_init_42 (fun H locs hP hD hSw => ?_)
  have hP : va_P D ln_cl [(h0, .inr (4, [.int 0, .int (nI 1), .int 0, .ref q1, .ref q2, .ref q3, .ref q4, .null])), (q1, .inl (g 0, 12, .inl (fun _ => 0))), (q2, .inl (g 0, 12, .inl (fun _ => 0))), (q3, .inl (g 3, 12, .inr (.inr (.inr (.inr (fun i => if i < 12 then some (r i) else none)))))), (r 0, .inl (g 0, 12, .inl (fun _ => 0))), (r 1, .inl (g 0, 12, .inl (fun _ => 0))), (r 2, .inl (g 0, 12, .inl (fun _ => 0))), (r 3, .inl (g 0, 12, .inl (fun _ => 0))), (r 4, .inl (g 0, 12, .inl (fun _ => 0))), (r 5, .inl (g 0, 12, .inl (fun _ => 0))), (r 6, .inl (g 0, 12, .inl (fun _ => 0))), (r 7, .inl (g 0, 12, .inl (fun _ => 0))), (r 8, .inl (g 0, 12, .inl (fun _ => 0))), (r 9, .inl (g 0, 12, .inl (fun _ => 0))), (r 10, .inl (g 0, 12, .inl (fun _ => 0))), (r 11, .inl (g 0, 12, .inl (fun _ => 0))), (q4, .inl (g 0, 12, .inl (fun _ => 0)))] H := hP
  have hD : va_D A [(h0, .inr (4, [.int 0, .int (nI 1), .int 0, .ref q1, .ref q2, .ref q3, .ref q4, .null])), (q1, .inl (g 0, 12, .inl (fun _ => 0))), (q2, .inl (g 0, 12, .inl (fun _ => 0))), (q3, .inl (g 3, 12, .inr (.inr (.inr (.inr (fun i => if i < 12 then some (r i) else none)))))), (r 0, .inl (g 0, 12, .inl (fun _ => 0))), (r 1, .inl (g 0, 12, .inl (fun _ => 0))), (r 2, .inl (g 0, 12, .inl (fun _ => 0))), (r 3, .inl (g 0, 12, .inl (fun _ => 0))), (r 4, .inl (g 0, 12, .inl (fun _ => 0))), (r 5, .inl (g 0, 12, .inl (fun _ => 0))), (r 6, .inl (g 0, 12, .inl (fun _ => 0))), (r 7, .inl (g 0, 12, .inl (fun _ => 0))), (r 8, .inl (g 0, 12, .inl (fun _ => 0))), (r 9, .inl (g 0, 12, .inl (fun _ => 0))), (r 10, .inl (g 0, 12, .inl (fun _ => 0))), (r 11, .inl (g 0, 12, .inl (fun _ => 0))), (q4, .inl (g 0, 12, .inl (fun _ => 0)))] := hD
  refine lv_aload_n X.1 X.2.1 dX4_init_45 rfl (lv_at hl 0 rfl) ?_
  refine lv_bipush (v := nI 12) X.1 X.2.1 dX4_init_46 (by decide) ?_
  refine ln_newA X (atype := .int) (ty := .int) rfl (fun C h => by cases h) mA_int rfl 0 rfl rfl (by decide) hP hD hSw hA 12 (by decide) (Nat.le_of_ble_eq_true rfl) (Nat.le_of_ble_eq_true rfl) dX4_init_48 (fun q5 H hP hD hSw => ?_)
  have hP : va_P D ln_cl [(h0, .inr (4, [.int 0, .int (nI 1), .int 0, .ref q1, .ref q2, .ref q3, .ref q4, .null])), (q1, .inl (g 0, 12, .inl (fun _ => 0))), (q2, .inl (g 0, 12, .inl (fun _ => 0))), (q3, .inl (g 3, 12, .inr (.inr (.inr (.inr (fun i => if i < 12 then some (r i) else none)))))), (r 0, .inl (g 0, 12, .inl (fun _ => 0))), (r 1, .inl (g 0, 12, .inl (fun _ => 0))), (r 2, .inl (g 0, 12, .inl (fun _ => 0))), (r 3, .inl (g 0, 12, .inl (fun _ => 0))), (r 4, .inl (g 0, 12, .inl (fun _ => 0))), (r 5, .inl (g 0, 12, .inl (fun _ => 0))), (r 6, .inl (g 0, 12, .inl (fun _ => 0))), (r 7, .inl (g 0, 12, .inl (fun _ => 0))), (r 8, .inl (g 0, 12, .inl (fun _ => 0))), (r 9, .inl (g 0, 12, .inl (fun _ => 0))), (r 10, .inl (g 0, 12, .inl (fun _ => 0))), (r 11, .inl (g 0, 12, .inl (fun _ => 0))), (q4, .inl (g 0, 12, .inl (fun _ => 0))), (q5, .inl (g 0, 12, .inl (fun _ => 0)))] H := hP
  have hD : va_D A [(h0, .inr (4, [.int 0, .int (nI 1), .int 0, .ref q1, .ref q2, .ref q3, .ref q4, .null])), (q1, .inl (g 0, 12, .inl (fun _ => 0))), (q2, .inl (g 0, 12, .inl (fun _ => 0))), (q3, .inl (g 3, 12, .inr (.inr (.inr (.inr (fun i => if i < 12 then some (r i) else none)))))), (r 0, .inl (g 0, 12, .inl (fun _ => 0))), (r 1, .inl (g 0, 12, .inl (fun _ => 0))), (r 2, .inl (g 0, 12, .inl (fun _ => 0))), (r 3, .inl (g 0, 12, .inl (fun _ => 0))), (r 4, .inl (g 0, 12, .inl (fun _ => 0))), (r 5, .inl (g 0, 12, .inl (fun _ => 0))), (r 6, .inl (g 0, 12, .inl (fun _ => 0))), (r 7, .inl (g 0, 12, .inl (fun _ => 0))), (r 8, .inl (g 0, 12, .inl (fun _ => 0))), (r 9, .inl (g 0, 12, .inl (fun _ => 0))), (r 10, .inl (g 0, 12, .inl (fun _ => 0))), (r 11, .inl (g 0, 12, .inl (fun _ => 0))), (q4, .inl (g 0, 12, .inl (fun _ => 0))), (q5, .inl (g 0, 12, .inl (fun _ => 0)))] := hD
  refine ln_pF X hnm hP hD hSw 0 rfl rfl kl_X4 tyX4 tyX4_ok nmX4 7 (by decide) mF_X4_30 rfl rfl (tyX4_ok 7 (by decide)) rfl rfl (Nat.le_of_ble_eq_true rfl) dX4_init_50 (fun H locs hP hD hSw => ?_)
  have hP : va_P D ln_cl [(h0, .inr (4, [.int 0, .int (nI 1), .int 0, .ref q1, .ref q2, .ref q3, .ref q4, .ref q5])), (q1, .inl (g 0, 12, .inl (fun _ => 0))), (q2, .inl (g 0, 12, .inl (fun _ => 0))), (q3, .inl (g 3, 12, .inr (.inr (.inr (.inr (fun i => if i < 12 then some (r i) else none)))))), (r 0, .inl (g 0, 12, .inl (fun _ => 0))), (r 1, .inl (g 0, 12, .inl (fun _ => 0))), (r 2, .inl (g 0, 12, .inl (fun _ => 0))), (r 3, .inl (g 0, 12, .inl (fun _ => 0))), (r 4, .inl (g 0, 12, .inl (fun _ => 0))), (r 5, .inl (g 0, 12, .inl (fun _ => 0))), (r 6, .inl (g 0, 12, .inl (fun _ => 0))), (r 7, .inl (g 0, 12, .inl (fun _ => 0))), (r 8, .inl (g 0, 12, .inl (fun _ => 0))), (r 9, .inl (g 0, 12, .inl (fun _ => 0))), (r 10, .inl (g 0, 12, .inl (fun _ => 0))), (r 11, .inl (g 0, 12, .inl (fun _ => 0))), (q4, .inl (g 0, 12, .inl (fun _ => 0))), (q5, .inl (g 0, 12, .inl (fun _ => 0)))] H := hP
  have hD : va_D A [(h0, .inr (4, [.int 0, .int (nI 1), .int 0, .ref q1, .ref q2, .ref q3, .ref q4, .ref q5])), (q1, .inl (g 0, 12, .inl (fun _ => 0))), (q2, .inl (g 0, 12, .inl (fun _ => 0))), (q3, .inl (g 3, 12, .inr (.inr (.inr (.inr (fun i => if i < 12 then some (r i) else none)))))), (r 0, .inl (g 0, 12, .inl (fun _ => 0))), (r 1, .inl (g 0, 12, .inl (fun _ => 0))), (r 2, .inl (g 0, 12, .inl (fun _ => 0))), (r 3, .inl (g 0, 12, .inl (fun _ => 0))), (r 4, .inl (g 0, 12, .inl (fun _ => 0))), (r 5, .inl (g 0, 12, .inl (fun _ => 0))), (r 6, .inl (g 0, 12, .inl (fun _ => 0))), (r 7, .inl (g 0, 12, .inl (fun _ => 0))), (r 8, .inl (g 0, 12, .inl (fun _ => 0))), (r 9, .inl (g 0, 12, .inl (fun _ => 0))), (r 10, .inl (g 0, 12, .inl (fun _ => 0))), (r 11, .inl (g 0, 12, .inl (fun _ => 0))), (q4, .inl (g 0, 12, .inl (fun _ => 0))), (q5, .inl (g 0, 12, .inl (fun _ => 0)))] := hD
  subst hQ0
  obtain ⟨b, b0, b1, b2, b3, b4, br⟩ : ∃ b : Nat → Nat, b 0 = q1 ∧ b 1 = q2 ∧ b 2 = q3 ∧ b 3 = q4 ∧ b 4 = q5 ∧ (fun i => b (5 + i)) = r := ⟨fun k => if k < 5 then [q1, q2, q3, q4, q5].getD k 0 else r (k - 5), rfl, rfl, rfl, rfl, rfl, funext (fun i => by show (if 5 + i < 5 then _ else r (5 + i - 5)) = r i; rw [if_neg (by omega), Nat.add_sub_cancel_left])⟩
  subst b0 b1 b2 b3 b4 br
  exact ln_retK (Wd := wd_X4 g h0) b X hr hlk hP hD hSw trivial dX4_init_53
def wd_X6 (g : Nat → ClassId) (h0 n1 : Nat) (b : Nat → Nat) : va_W := [(h0, .inr (6, [.ref (n1), .ref (b 0), .ref (b 1)])), (b 0, .inl (g 3, 3, .inr (.inr (.inr (.inr (fun i => if i < 3 then some (b (2 + i)) else none)))))), (b 2, .inl (g 0, 4096, .inl (fun _ => 0))), (b 3, .inl (g 0, 4096, .inl (fun _ => 0))), (b 4, .inl (g 0, 4096, .inl (fun _ => 0))), (b 1, .inl (g 0, 3, .inl (fun _ => 0)))]
set_option maxHeartbeats 4000000 in
set_option maxRecDepth 100000 in
theorem c_X6_init (l : Launch) (D : va_G) (g : Nat → ClassId) (h0 n1 : Nat) (d : Nat) (hd1 : 1 ≤ d) : ln_K l D g yX6_init (.code yX6_init cX6_init 2 none) d 5 12294 [.ref h0, .ref n1] [(h0, .inr (6, [.null, .null, .null]))] (wd_X6 g h0 n1) (fun _ => True) := by
  refine ln_ofK (by decide +kernel) rfl (Nat.le_of_ble_eq_true rfl) (fun prg env sta mid args below meth cod ls A hr hlk hnm X hO hA hP hD hSw hl => ?_)
  have hl : lv_has ls 2 [(0, .ref h0), (1, .ref n1)] := hl
  generalize hQ0 : (MQ below (va_Qv (fun _ => True) (fun (b : Nat → Nat) t => va_P D ln_cl (wd_X6 g h0 n1 b) t.heap ∧ va_D A (wd_X6 g h0 n1 b)) A) args sta 5 12294 A) = Q0
  refine lv_aload_n X.1 X.2.1 dX6_init_0 rfl (lv_at hl 0 rfl) ?_
  refine ln_objI X hd1 mM_X6_3 hl.1 (Nat.le_of_ble_eq_true rfl) dX6_init_1 ?_
  refine lv_aload_n X.1 X.2.1 dX6_init_4 rfl (lv_at hl 0 rfl) ?_
  refine lv_iconst (v := nI 3) X.1 X.2.1 dX6_init_5 (by decide) ?_
  refine lv_sipush (v := nI 4096) X.1 X.2.1 dX6_init_6 (by decide) ?_
  refine ln_newM X hO (ty := .int) (Or.inl rfl) (by rw [ln_bbI]; exact mL_X6_9) mA_int rfl 0 3 rfl rfl hP hD hSw hA 3 4096 (by decide) (by decide) (Nat.le_of_ble_eq_true rfl) (Nat.le_of_ble_eq_true rfl) dX6_init_9 (fun q1 r H hP hD hSw => ?_)
  have hP : va_P D ln_cl [(h0, .inr (6, [.null, .null, .null])), (q1, .inl (g 3, 3, .inr (.inr (.inr (.inr (fun i => if i < 3 then some (r i) else none)))))), (r 0, .inl (g 0, 4096, .inl (fun _ => 0))), (r 1, .inl (g 0, 4096, .inl (fun _ => 0))), (r 2, .inl (g 0, 4096, .inl (fun _ => 0)))] H := hP
  have hD : va_D A [(h0, .inr (6, [.null, .null, .null])), (q1, .inl (g 3, 3, .inr (.inr (.inr (.inr (fun i => if i < 3 then some (r i) else none)))))), (r 0, .inl (g 0, 4096, .inl (fun _ => 0))), (r 1, .inl (g 0, 4096, .inl (fun _ => 0))), (r 2, .inl (g 0, 4096, .inl (fun _ => 0)))] := hD
  refine ln_pF X hnm hP hD hSw 0 rfl rfl kl_X6 tyX6 tyX6_ok nmX6 1 (by decide) mF_X6_11 rfl rfl (tyX6_ok 1 (by decide)) rfl rfl (Nat.le_of_ble_eq_true rfl) dX6_init_13 (fun H locs hP hD hSw => ?_)
  have hP : va_P D ln_cl [(h0, .inr (6, [.null, .ref q1, .null])), (q1, .inl (g 3, 3, .inr (.inr (.inr (.inr (fun i => if i < 3 then some (r i) else none)))))), (r 0, .inl (g 0, 4096, .inl (fun _ => 0))), (r 1, .inl (g 0, 4096, .inl (fun _ => 0))), (r 2, .inl (g 0, 4096, .inl (fun _ => 0)))] H := hP
  have hD : va_D A [(h0, .inr (6, [.null, .ref q1, .null])), (q1, .inl (g 3, 3, .inr (.inr (.inr (.inr (fun i => if i < 3 then some (r i) else none)))))), (r 0, .inl (g 0, 4096, .inl (fun _ => 0))), (r 1, .inl (g 0, 4096, .inl (fun _ => 0))), (r 2, .inl (g 0, 4096, .inl (fun _ => 0)))] := hD
  refine lv_aload_n X.1 X.2.1 dX6_init_16 rfl (lv_at hl 0 rfl) ?_
  refine lv_iconst (v := nI 3) X.1 X.2.1 dX6_init_17 (by decide) ?_
  refine ln_newA X (atype := .int) (ty := .int) rfl (fun C h => by cases h) mA_int rfl 0 rfl rfl (by decide) hP hD hSw hA 3 (by decide) (Nat.le_of_ble_eq_true rfl) (Nat.le_of_ble_eq_true rfl) dX6_init_18 (fun q2 H hP hD hSw => ?_)
  have hP : va_P D ln_cl [(h0, .inr (6, [.null, .ref q1, .null])), (q1, .inl (g 3, 3, .inr (.inr (.inr (.inr (fun i => if i < 3 then some (r i) else none)))))), (r 0, .inl (g 0, 4096, .inl (fun _ => 0))), (r 1, .inl (g 0, 4096, .inl (fun _ => 0))), (r 2, .inl (g 0, 4096, .inl (fun _ => 0))), (q2, .inl (g 0, 3, .inl (fun _ => 0)))] H := hP
  have hD : va_D A [(h0, .inr (6, [.null, .ref q1, .null])), (q1, .inl (g 3, 3, .inr (.inr (.inr (.inr (fun i => if i < 3 then some (r i) else none)))))), (r 0, .inl (g 0, 4096, .inl (fun _ => 0))), (r 1, .inl (g 0, 4096, .inl (fun _ => 0))), (r 2, .inl (g 0, 4096, .inl (fun _ => 0))), (q2, .inl (g 0, 3, .inl (fun _ => 0)))] := hD
  refine ln_pF X hnm hP hD hSw 0 rfl rfl kl_X6 tyX6 tyX6_ok nmX6 2 (by decide) mF_X6_16 rfl rfl (tyX6_ok 2 (by decide)) rfl rfl (Nat.le_of_ble_eq_true rfl) dX6_init_20 (fun H locs hP hD hSw => ?_)
  have hP : va_P D ln_cl [(h0, .inr (6, [.null, .ref q1, .ref q2])), (q1, .inl (g 3, 3, .inr (.inr (.inr (.inr (fun i => if i < 3 then some (r i) else none)))))), (r 0, .inl (g 0, 4096, .inl (fun _ => 0))), (r 1, .inl (g 0, 4096, .inl (fun _ => 0))), (r 2, .inl (g 0, 4096, .inl (fun _ => 0))), (q2, .inl (g 0, 3, .inl (fun _ => 0)))] H := hP
  have hD : va_D A [(h0, .inr (6, [.null, .ref q1, .ref q2])), (q1, .inl (g 3, 3, .inr (.inr (.inr (.inr (fun i => if i < 3 then some (r i) else none)))))), (r 0, .inl (g 0, 4096, .inl (fun _ => 0))), (r 1, .inl (g 0, 4096, .inl (fun _ => 0))), (r 2, .inl (g 0, 4096, .inl (fun _ => 0))), (q2, .inl (g 0, 3, .inl (fun _ => 0)))] := hD
  refine lv_aload_n X.1 X.2.1 dX6_init_23 rfl (lv_at hl 0 rfl) ?_
  refine lv_aload_n X.1 X.2.1 dX6_init_24 rfl (lv_at hl 1 rfl) ?_
  refine ln_pF X hnm hP hD hSw 0 rfl rfl kl_X6 tyX6 tyX6_ok nmX6 0 (by decide) mF_X6_20 rfl rfl (tyX6_ok 0 (by decide)) rfl rfl (Nat.le_of_ble_eq_true rfl) dX6_init_25 (fun H locs hP hD hSw => ?_)
  have hP : va_P D ln_cl [(h0, .inr (6, [.ref n1, .ref q1, .ref q2])), (q1, .inl (g 3, 3, .inr (.inr (.inr (.inr (fun i => if i < 3 then some (r i) else none)))))), (r 0, .inl (g 0, 4096, .inl (fun _ => 0))), (r 1, .inl (g 0, 4096, .inl (fun _ => 0))), (r 2, .inl (g 0, 4096, .inl (fun _ => 0))), (q2, .inl (g 0, 3, .inl (fun _ => 0)))] H := hP
  have hD : va_D A [(h0, .inr (6, [.ref n1, .ref q1, .ref q2])), (q1, .inl (g 3, 3, .inr (.inr (.inr (.inr (fun i => if i < 3 then some (r i) else none)))))), (r 0, .inl (g 0, 4096, .inl (fun _ => 0))), (r 1, .inl (g 0, 4096, .inl (fun _ => 0))), (r 2, .inl (g 0, 4096, .inl (fun _ => 0))), (q2, .inl (g 0, 3, .inl (fun _ => 0)))] := hD
  subst hQ0
  obtain ⟨b, b0, b1, br⟩ : ∃ b : Nat → Nat, b 0 = q1 ∧ b 1 = q2 ∧ (fun i => b (2 + i)) = r := ⟨fun k => if k < 2 then [q1, q2].getD k 0 else r (k - 2), rfl, rfl, funext (fun i => by show (if 2 + i < 2 then _ else r (2 + i - 2)) = r i; rw [if_neg (by omega), Nat.add_sub_cancel_left])⟩
  subst b0 b1 br
  exact ln_retK (Wd := wd_X6 g h0 n1) b X hr hlk hP hD hSw trivial dX6_init_28
def wd_X1 (g : Nat → ClassId) (h0 n1 n2 : Nat) (b : Nat → Nat) : va_W := [(h0, .inr (1, [.ref (n1), .ref (n2), .ref (b 0), .int 0])), (b 0, .inl (g 0, 14, .inl (fun _ => 0)))]
set_option maxHeartbeats 4000000 in
set_option maxRecDepth 100000 in
theorem c_X1_init (l : Launch) (D : va_G) (g : Nat → ClassId) (h0 n1 n2 : Nat) (d : Nat) (hd1 : 1 ≤ d) : ln_K l D g yX1_init (.code yX1_init cX1_init 3 none) d 1 14 [.ref h0, .ref n1, .ref n2] [(h0, .inr (1, [.null, .null, .null, .int 0]))] (wd_X1 g h0 n1 n2) (fun _ => True) := by
  refine ln_ofK (by decide +kernel) rfl (Nat.le_of_ble_eq_true rfl) (fun prg env sta mid args below meth cod ls A hr hlk hnm X hO hA hP hD hSw hl => ?_)
  have hl : lv_has ls 3 [(0, .ref h0), (1, .ref n1), (2, .ref n2)] := hl
  generalize hQ0 : (MQ below (va_Qv (fun _ => True) (fun (b : Nat → Nat) t => va_P D ln_cl (wd_X1 g h0 n1 n2 b) t.heap ∧ va_D A (wd_X1 g h0 n1 n2 b)) A) args sta 1 14 A) = Q0
  refine lv_aload_n X.1 X.2.1 dX1_init_0 rfl (lv_at hl 0 rfl) ?_
  refine ln_objI X hd1 mM_X1_3 hl.1 (Nat.le_of_ble_eq_true rfl) dX1_init_1 ?_
  refine lv_aload_n X.1 X.2.1 dX1_init_4 rfl (lv_at hl 0 rfl) ?_
  refine lv_bipush (v := nI 14) X.1 X.2.1 dX1_init_5 (by decide) ?_
  refine ln_newA X (atype := .int) (ty := .int) rfl (fun C h => by cases h) mA_int rfl 0 rfl rfl (by decide) hP hD hSw hA 14 (by decide) (Nat.le_of_ble_eq_true rfl) (Nat.le_of_ble_eq_true rfl) dX1_init_7 (fun q1 H hP hD hSw => ?_)
  have hP : va_P D ln_cl [(h0, .inr (1, [.null, .null, .null, .int 0])), (q1, .inl (g 0, 14, .inl (fun _ => 0)))] H := hP
  have hD : va_D A [(h0, .inr (1, [.null, .null, .null, .int 0])), (q1, .inl (g 0, 14, .inl (fun _ => 0)))] := hD
  refine ln_pF X hnm hP hD hSw 0 rfl rfl kl_X1 tyX1 tyX1_ok nmX1 2 (by decide) mF_X1_9 rfl rfl (tyX1_ok 2 (by decide)) rfl rfl (Nat.le_of_ble_eq_true rfl) dX1_init_9 (fun H locs hP hD hSw => ?_)
  have hP : va_P D ln_cl [(h0, .inr (1, [.null, .null, .ref q1, .int 0])), (q1, .inl (g 0, 14, .inl (fun _ => 0)))] H := hP
  have hD : va_D A [(h0, .inr (1, [.null, .null, .ref q1, .int 0])), (q1, .inl (g 0, 14, .inl (fun _ => 0)))] := hD
  refine lv_aload_n X.1 X.2.1 dX1_init_12 rfl (lv_at hl 0 rfl) ?_
  refine lv_aload_n X.1 X.2.1 dX1_init_13 rfl (lv_at hl 1 rfl) ?_
  refine ln_pF X hnm hP hD hSw 0 rfl rfl kl_X1 tyX1 tyX1_ok nmX1 0 (by decide) mF_X1_15 rfl rfl (tyX1_ok 0 (by decide)) rfl rfl (Nat.le_of_ble_eq_true rfl) dX1_init_14 (fun H locs hP hD hSw => ?_)
  have hP : va_P D ln_cl [(h0, .inr (1, [.ref n1, .null, .ref q1, .int 0])), (q1, .inl (g 0, 14, .inl (fun _ => 0)))] H := hP
  have hD : va_D A [(h0, .inr (1, [.ref n1, .null, .ref q1, .int 0])), (q1, .inl (g 0, 14, .inl (fun _ => 0)))] := hD
  refine lv_aload_n X.1 X.2.1 dX1_init_17 rfl (lv_at hl 0 rfl) ?_
  refine lv_aload_n X.1 X.2.1 dX1_init_18 rfl (lv_at hl 2 rfl) ?_
  refine ln_pF X hnm hP hD hSw 0 rfl rfl kl_X1 tyX1 tyX1_ok nmX1 1 (by decide) mF_X1_19 rfl rfl (tyX1_ok 1 (by decide)) rfl rfl (Nat.le_of_ble_eq_true rfl) dX1_init_19 (fun H locs hP hD hSw => ?_)
  have hP : va_P D ln_cl [(h0, .inr (1, [.ref n1, .ref n2, .ref q1, .int 0])), (q1, .inl (g 0, 14, .inl (fun _ => 0)))] H := hP
  have hD : va_D A [(h0, .inr (1, [.ref n1, .ref n2, .ref q1, .int 0])), (q1, .inl (g 0, 14, .inl (fun _ => 0)))] := hD
  subst hQ0
  exact ln_retK (Wd := wd_X1 g h0 n1 n2) (fun k => [q1].getD k 0) X hr hlk hP hD hSw trivial dX1_init_22
def wd_X5 (g : Nat → ClassId) (h0 n1 : Nat) (b : Nat → Nat) : va_W := [(h0, .inr (5, [.ref (n1)]))]
set_option maxHeartbeats 4000000 in
set_option maxRecDepth 100000 in
theorem c_X5_init (l : Launch) (D : va_G) (g : Nat → ClassId) (h0 n1 : Nat) (d : Nat) (hd1 : 1 ≤ d) : ln_K l D g yX5_init (.code yX5_init cX5_init 2 none) d 0 0 [.ref h0, .ref n1] [(h0, .inr (5, [.null]))] (wd_X5 g h0 n1) (fun _ => True) := by
  refine ln_ofK (by decide +kernel) rfl (Nat.le_of_ble_eq_true rfl) (fun prg env sta mid args below meth cod ls A hr hlk hnm X hO hA hP hD hSw hl => ?_)
  have hl : lv_has ls 2 [(0, .ref h0), (1, .ref n1)] := hl
  generalize hQ0 : (MQ below (va_Qv (fun _ => True) (fun (b : Nat → Nat) t => va_P D ln_cl (wd_X5 g h0 n1 b) t.heap ∧ va_D A (wd_X5 g h0 n1 b)) A) args sta 0 0 A) = Q0
  refine lv_aload_n X.1 X.2.1 dX5_init_0 rfl (lv_at hl 0 rfl) ?_
  refine ln_objI X hd1 mM_X5_1 hl.1 (Nat.le_of_ble_eq_true rfl) dX5_init_1 ?_
  refine lv_aload_n X.1 X.2.1 dX5_init_4 rfl (lv_at hl 0 rfl) ?_
  refine lv_aload_n X.1 X.2.1 dX5_init_5 rfl (lv_at hl 1 rfl) ?_
  refine ln_pF X hnm hP hD hSw 0 rfl rfl kl_X5 tyX5 tyX5_ok nmX5 0 (by decide) mF_X5_7 rfl rfl (tyX5_ok 0 (by decide)) rfl rfl (Nat.le_of_ble_eq_true rfl) dX5_init_6 (fun H locs hP hD hSw => ?_)
  have hP : va_P D ln_cl [(h0, .inr (5, [.ref n1]))] H := hP
  have hD : va_D A [(h0, .inr (5, [.ref n1]))] := hD
  subst hQ0
  exact ln_retK (Wd := wd_X5 g h0 n1) (fun _ => 0) X hr hlk hP hD hSw trivial dX5_init_9
def wd_X7 (g : Nat → ClassId) (h0 n1 n2 : Nat) (b : Nat → Nat) : va_W := [(h0, .inr (7, [.ref (n1), .ref (n2), .ref (b 0), .ref (b 1), .ref (b 2)])), (b 0, .inl (g 0, 4096, .inl (fun _ => 0))), (b 1, .inl (g 0, 2, .inl (fun _ => 0))), (b 2, .inl (g 0, 2, .inl (fun _ => 0)))]
set_option maxHeartbeats 4000000 in
set_option maxRecDepth 100000 in
theorem c_X7_init (l : Launch) (D : va_G) (g : Nat → ClassId) (h0 n1 n2 : Nat) (d : Nat) (hd1 : 1 ≤ d) : ln_K l D g yX7_init (.code yX7_init cX7_init 3 none) d 3 4100 [.ref h0, .ref n1, .ref n2] [(h0, .inr (7, [.null, .null, .null, .null, .null]))] (wd_X7 g h0 n1 n2) (fun _ => True) := by
  refine ln_ofK (by decide +kernel) rfl (Nat.le_of_ble_eq_true rfl) (fun prg env sta mid args below meth cod ls A hr hlk hnm X hO hA hP hD hSw hl => ?_)
  have hl : lv_has ls 3 [(0, .ref h0), (1, .ref n1), (2, .ref n2)] := hl
  generalize hQ0 : (MQ below (va_Qv (fun _ => True) (fun (b : Nat → Nat) t => va_P D ln_cl (wd_X7 g h0 n1 n2 b) t.heap ∧ va_D A (wd_X7 g h0 n1 n2 b)) A) args sta 3 4100 A) = Q0
  refine lv_aload_n X.1 X.2.1 dX7_init_0 rfl (lv_at hl 0 rfl) ?_
  refine ln_objI X hd1 mM_X7_3 hl.1 (Nat.le_of_ble_eq_true rfl) dX7_init_1 ?_
  refine lv_aload_n X.1 X.2.1 dX7_init_4 rfl (lv_at hl 0 rfl) ?_
  refine lv_sipush (v := nI 4096) X.1 X.2.1 dX7_init_5 (by decide) ?_
  refine ln_newA X (atype := .int) (ty := .int) rfl (fun C h => by cases h) mA_int rfl 0 rfl rfl (by decide) hP hD hSw hA 4096 (by decide) (Nat.le_of_ble_eq_true rfl) (Nat.le_of_ble_eq_true rfl) dX7_init_8 (fun q1 H hP hD hSw => ?_)
  have hP : va_P D ln_cl [(h0, .inr (7, [.null, .null, .null, .null, .null])), (q1, .inl (g 0, 4096, .inl (fun _ => 0)))] H := hP
  have hD : va_D A [(h0, .inr (7, [.null, .null, .null, .null, .null])), (q1, .inl (g 0, 4096, .inl (fun _ => 0)))] := hD
  refine ln_pF X hnm hP hD hSw 0 rfl rfl kl_X7 tyX7 tyX7_ok nmX7 2 (by decide) mF_X7_9 rfl rfl (tyX7_ok 2 (by decide)) rfl rfl (Nat.le_of_ble_eq_true rfl) dX7_init_10 (fun H locs hP hD hSw => ?_)
  have hP : va_P D ln_cl [(h0, .inr (7, [.null, .null, .ref q1, .null, .null])), (q1, .inl (g 0, 4096, .inl (fun _ => 0)))] H := hP
  have hD : va_D A [(h0, .inr (7, [.null, .null, .ref q1, .null, .null])), (q1, .inl (g 0, 4096, .inl (fun _ => 0)))] := hD
  refine lv_aload_n X.1 X.2.1 dX7_init_13 rfl (lv_at hl 0 rfl) ?_
  refine lv_iconst (v := nI 2) X.1 X.2.1 dX7_init_14 (by decide) ?_
  refine ln_newA X (atype := .int) (ty := .int) rfl (fun C h => by cases h) mA_int rfl 0 rfl rfl (by decide) hP hD hSw hA 2 (by decide) (Nat.le_of_ble_eq_true rfl) (Nat.le_of_ble_eq_true rfl) dX7_init_15 (fun q2 H hP hD hSw => ?_)
  have hP : va_P D ln_cl [(h0, .inr (7, [.null, .null, .ref q1, .null, .null])), (q1, .inl (g 0, 4096, .inl (fun _ => 0))), (q2, .inl (g 0, 2, .inl (fun _ => 0)))] H := hP
  have hD : va_D A [(h0, .inr (7, [.null, .null, .ref q1, .null, .null])), (q1, .inl (g 0, 4096, .inl (fun _ => 0))), (q2, .inl (g 0, 2, .inl (fun _ => 0)))] := hD
  refine ln_pF X hnm hP hD hSw 0 rfl rfl kl_X7 tyX7 tyX7_ok nmX7 3 (by decide) mF_X7_15 rfl rfl (tyX7_ok 3 (by decide)) rfl rfl (Nat.le_of_ble_eq_true rfl) dX7_init_17 (fun H locs hP hD hSw => ?_)
  have hP : va_P D ln_cl [(h0, .inr (7, [.null, .null, .ref q1, .ref q2, .null])), (q1, .inl (g 0, 4096, .inl (fun _ => 0))), (q2, .inl (g 0, 2, .inl (fun _ => 0)))] H := hP
  have hD : va_D A [(h0, .inr (7, [.null, .null, .ref q1, .ref q2, .null])), (q1, .inl (g 0, 4096, .inl (fun _ => 0))), (q2, .inl (g 0, 2, .inl (fun _ => 0)))] := hD
  refine lv_aload_n X.1 X.2.1 dX7_init_20 rfl (lv_at hl 0 rfl) ?_
  refine lv_iconst (v := nI 2) X.1 X.2.1 dX7_init_21 (by decide) ?_
  refine ln_newA X (atype := .int) (ty := .int) rfl (fun C h => by cases h) mA_int rfl 0 rfl rfl (by decide) hP hD hSw hA 2 (by decide) (Nat.le_of_ble_eq_true rfl) (Nat.le_of_ble_eq_true rfl) dX7_init_22 (fun q3 H hP hD hSw => ?_)
  have hP : va_P D ln_cl [(h0, .inr (7, [.null, .null, .ref q1, .ref q2, .null])), (q1, .inl (g 0, 4096, .inl (fun _ => 0))), (q2, .inl (g 0, 2, .inl (fun _ => 0))), (q3, .inl (g 0, 2, .inl (fun _ => 0)))] H := hP
  have hD : va_D A [(h0, .inr (7, [.null, .null, .ref q1, .ref q2, .null])), (q1, .inl (g 0, 4096, .inl (fun _ => 0))), (q2, .inl (g 0, 2, .inl (fun _ => 0))), (q3, .inl (g 0, 2, .inl (fun _ => 0)))] := hD
  refine ln_pF X hnm hP hD hSw 0 rfl rfl kl_X7 tyX7 tyX7_ok nmX7 4 (by decide) mF_X7_18 rfl rfl (tyX7_ok 4 (by decide)) rfl rfl (Nat.le_of_ble_eq_true rfl) dX7_init_24 (fun H locs hP hD hSw => ?_)
  have hP : va_P D ln_cl [(h0, .inr (7, [.null, .null, .ref q1, .ref q2, .ref q3])), (q1, .inl (g 0, 4096, .inl (fun _ => 0))), (q2, .inl (g 0, 2, .inl (fun _ => 0))), (q3, .inl (g 0, 2, .inl (fun _ => 0)))] H := hP
  have hD : va_D A [(h0, .inr (7, [.null, .null, .ref q1, .ref q2, .ref q3])), (q1, .inl (g 0, 4096, .inl (fun _ => 0))), (q2, .inl (g 0, 2, .inl (fun _ => 0))), (q3, .inl (g 0, 2, .inl (fun _ => 0)))] := hD
  refine lv_aload_n X.1 X.2.1 dX7_init_27 rfl (lv_at hl 0 rfl) ?_
  refine lv_aload_n X.1 X.2.1 dX7_init_28 rfl (lv_at hl 1 rfl) ?_
  refine ln_pF X hnm hP hD hSw 0 rfl rfl kl_X7 tyX7 tyX7_ok nmX7 0 (by decide) mF_X7_21 rfl rfl (tyX7_ok 0 (by decide)) rfl rfl (Nat.le_of_ble_eq_true rfl) dX7_init_29 (fun H locs hP hD hSw => ?_)
  have hP : va_P D ln_cl [(h0, .inr (7, [.ref n1, .null, .ref q1, .ref q2, .ref q3])), (q1, .inl (g 0, 4096, .inl (fun _ => 0))), (q2, .inl (g 0, 2, .inl (fun _ => 0))), (q3, .inl (g 0, 2, .inl (fun _ => 0)))] H := hP
  have hD : va_D A [(h0, .inr (7, [.ref n1, .null, .ref q1, .ref q2, .ref q3])), (q1, .inl (g 0, 4096, .inl (fun _ => 0))), (q2, .inl (g 0, 2, .inl (fun _ => 0))), (q3, .inl (g 0, 2, .inl (fun _ => 0)))] := hD
  refine lv_aload_n X.1 X.2.1 dX7_init_32 rfl (lv_at hl 0 rfl) ?_
  refine lv_aload_n X.1 X.2.1 dX7_init_33 rfl (lv_at hl 2 rfl) ?_
  refine ln_pF X hnm hP hD hSw 0 rfl rfl kl_X7 tyX7 tyX7_ok nmX7 1 (by decide) mF_X7_25 rfl rfl (tyX7_ok 1 (by decide)) rfl rfl (Nat.le_of_ble_eq_true rfl) dX7_init_34 (fun H locs hP hD hSw => ?_)
  have hP : va_P D ln_cl [(h0, .inr (7, [.ref n1, .ref n2, .ref q1, .ref q2, .ref q3])), (q1, .inl (g 0, 4096, .inl (fun _ => 0))), (q2, .inl (g 0, 2, .inl (fun _ => 0))), (q3, .inl (g 0, 2, .inl (fun _ => 0)))] H := hP
  have hD : va_D A [(h0, .inr (7, [.ref n1, .ref n2, .ref q1, .ref q2, .ref q3])), (q1, .inl (g 0, 4096, .inl (fun _ => 0))), (q2, .inl (g 0, 2, .inl (fun _ => 0))), (q3, .inl (g 0, 2, .inl (fun _ => 0)))] := hD
  subst hQ0
  exact ln_retK (Wd := wd_X7 g h0 n1 n2) (fun k => [q1, q2, q3].getD k 0) X hr hlk hP hD hSw trivial dX7_init_37
def wd_X0 (g : Nat → ClassId) (h0 n1 : Nat) (b : Nat → Nat) : va_W := [(h0, .inr (0, [.ref (n1), .ref (b 0), .int 0])), (b 0, .inl (g 0, 4096, .inl (fun _ => 0)))]
set_option maxHeartbeats 4000000 in
set_option maxRecDepth 100000 in
theorem c_X0_init (l : Launch) (D : va_G) (g : Nat → ClassId) (h0 n1 : Nat) (d : Nat) (hd1 : 1 ≤ d) : ln_K l D g yX0_init (.code yX0_init cX0_init 2 none) d 1 4096 [.ref h0, .ref n1] [(h0, .inr (0, [.null, .null, .int 0]))] (wd_X0 g h0 n1) (fun _ => True) := by
  refine ln_ofK (by decide +kernel) rfl (Nat.le_of_ble_eq_true rfl) (fun prg env sta mid args below meth cod ls A hr hlk hnm X hO hA hP hD hSw hl => ?_)
  have hl : lv_has ls 2 [(0, .ref h0), (1, .ref n1)] := hl
  generalize hQ0 : (MQ below (va_Qv (fun _ => True) (fun (b : Nat → Nat) t => va_P D ln_cl (wd_X0 g h0 n1 b) t.heap ∧ va_D A (wd_X0 g h0 n1 b)) A) args sta 1 4096 A) = Q0
  refine lv_aload_n X.1 X.2.1 dX0_init_0 rfl (lv_at hl 0 rfl) ?_
  refine ln_objI X hd1 mM_X0_3 hl.1 (Nat.le_of_ble_eq_true rfl) dX0_init_1 ?_
  refine lv_aload_n X.1 X.2.1 dX0_init_4 rfl (lv_at hl 0 rfl) ?_
  refine lv_sipush (v := nI 4096) X.1 X.2.1 dX0_init_5 (by decide) ?_
  refine ln_newA X (atype := .int) (ty := .int) rfl (fun C h => by cases h) mA_int rfl 0 rfl rfl (by decide) hP hD hSw hA 4096 (by decide) (Nat.le_of_ble_eq_true rfl) (Nat.le_of_ble_eq_true rfl) dX0_init_8 (fun q1 H hP hD hSw => ?_)
  have hP : va_P D ln_cl [(h0, .inr (0, [.null, .null, .int 0])), (q1, .inl (g 0, 4096, .inl (fun _ => 0)))] H := hP
  have hD : va_D A [(h0, .inr (0, [.null, .null, .int 0])), (q1, .inl (g 0, 4096, .inl (fun _ => 0)))] := hD
  refine ln_pF X hnm hP hD hSw 0 rfl rfl kl_X0 tyX0 tyX0_ok nmX0 1 (by decide) mF_X0_9 rfl rfl (tyX0_ok 1 (by decide)) rfl rfl (Nat.le_of_ble_eq_true rfl) dX0_init_10 (fun H locs hP hD hSw => ?_)
  have hP : va_P D ln_cl [(h0, .inr (0, [.null, .ref q1, .int 0])), (q1, .inl (g 0, 4096, .inl (fun _ => 0)))] H := hP
  have hD : va_D A [(h0, .inr (0, [.null, .ref q1, .int 0])), (q1, .inl (g 0, 4096, .inl (fun _ => 0)))] := hD
  refine lv_aload_n X.1 X.2.1 dX0_init_13 rfl (lv_at hl 0 rfl) ?_
  refine lv_aload_n X.1 X.2.1 dX0_init_14 rfl (lv_at hl 1 rfl) ?_
  refine ln_pF X hnm hP hD hSw 0 rfl rfl kl_X0 tyX0 tyX0_ok nmX0 0 (by decide) mF_X0_15 rfl rfl (tyX0_ok 0 (by decide)) rfl rfl (Nat.le_of_ble_eq_true rfl) dX0_init_15 (fun H locs hP hD hSw => ?_)
  have hP : va_P D ln_cl [(h0, .inr (0, [.ref n1, .ref q1, .int 0])), (q1, .inl (g 0, 4096, .inl (fun _ => 0)))] H := hP
  have hD : va_D A [(h0, .inr (0, [.ref n1, .ref q1, .int 0])), (q1, .inl (g 0, 4096, .inl (fun _ => 0)))] := hD
  subst hQ0
  exact ln_retK (Wd := wd_X0 g h0 n1) (fun k => [q1].getD k 0) X hr hlk hP hD hSw trivial dX0_init_18
def wd_X2 (g : Nat → ClassId) (h0 n1 : Nat) (b : Nat → Nat) : va_W := [(h0, .inr (2, [.ref (n1)]))]
set_option maxHeartbeats 4000000 in
set_option maxRecDepth 100000 in
theorem c_X2_init (l : Launch) (D : va_G) (g : Nat → ClassId) (h0 n1 : Nat) (d : Nat) (hd1 : 1 ≤ d) : ln_K l D g yX2_init (.code yX2_init cX2_init 2 none) d 0 0 [.ref h0, .ref n1] [(h0, .inr (2, [.null]))] (wd_X2 g h0 n1) (fun _ => True) := by
  refine ln_ofK (by decide +kernel) rfl (Nat.le_of_ble_eq_true rfl) (fun prg env sta mid args below meth cod ls A hr hlk hnm X hO hA hP hD hSw hl => ?_)
  have hl : lv_has ls 2 [(0, .ref h0), (1, .ref n1)] := hl
  generalize hQ0 : (MQ below (va_Qv (fun _ => True) (fun (b : Nat → Nat) t => va_P D ln_cl (wd_X2 g h0 n1 b) t.heap ∧ va_D A (wd_X2 g h0 n1 b)) A) args sta 0 0 A) = Q0
  refine lv_aload_n X.1 X.2.1 dX2_init_0 rfl (lv_at hl 0 rfl) ?_
  refine ln_objI X hd1 mM_X2_3 hl.1 (Nat.le_of_ble_eq_true rfl) dX2_init_1 ?_
  refine lv_aload_n X.1 X.2.1 dX2_init_4 rfl (lv_at hl 0 rfl) ?_
  refine lv_aload_n X.1 X.2.1 dX2_init_5 rfl (lv_at hl 1 rfl) ?_
  refine ln_pF X hnm hP hD hSw 0 rfl rfl kl_X2 tyX2 tyX2_ok nmX2 0 (by decide) mF_X2_9 rfl rfl (tyX2_ok 0 (by decide)) rfl rfl (Nat.le_of_ble_eq_true rfl) dX2_init_6 (fun H locs hP hD hSw => ?_)
  have hP : va_P D ln_cl [(h0, .inr (2, [.ref n1]))] H := hP
  have hD : va_D A [(h0, .inr (2, [.ref n1]))] := hD
  subst hQ0
  exact ln_retK (Wd := wd_X2 g h0 n1) (fun _ => 0) X hr hlk hP hD hSw trivial dX2_init_9
def wd_X8 (g : Nat → ClassId) (h0 n1 : Nat) (b : Nat → Nat) : va_W := [(h0, .inr (8, [.ref (n1), .ref (b 0), .int 0])), (b 0, .inl (g 1, 4096, .inl (fun _ => 0)))]
set_option maxHeartbeats 4000000 in
set_option maxRecDepth 100000 in
theorem c_X8_init (l : Launch) (D : va_G) (g : Nat → ClassId) (h0 n1 : Nat) (d : Nat) (hd1 : 1 ≤ d) : ln_K l D g yX8_init (.code yX8_init cX8_init 2 none) d 1 4096 [.ref h0, .ref n1] [(h0, .inr (8, [.null, .null, .int 0]))] (wd_X8 g h0 n1) (fun _ => True) := by
  refine ln_ofK (by decide +kernel) rfl (Nat.le_of_ble_eq_true rfl) (fun prg env sta mid args below meth cod ls A hr hlk hnm X hO hA hP hD hSw hl => ?_)
  have hl : lv_has ls 2 [(0, .ref h0), (1, .ref n1)] := hl
  generalize hQ0 : (MQ below (va_Qv (fun _ => True) (fun (b : Nat → Nat) t => va_P D ln_cl (wd_X8 g h0 n1 b) t.heap ∧ va_D A (wd_X8 g h0 n1 b)) A) args sta 1 4096 A) = Q0
  refine lv_aload_n X.1 X.2.1 dX8_init_0 rfl (lv_at hl 0 rfl) ?_
  refine ln_objI X hd1 mM_X8_3 hl.1 (Nat.le_of_ble_eq_true rfl) dX8_init_1 ?_
  refine lv_aload_n X.1 X.2.1 dX8_init_4 rfl (lv_at hl 0 rfl) ?_
  refine lv_sipush (v := nI 4096) X.1 X.2.1 dX8_init_5 (by decide) ?_
  refine ln_newA X (atype := .boolean) (ty := .boolean) rfl (fun C h => by cases h) mA_boolean rfl 1 rfl rfl (by decide) hP hD hSw hA 4096 (by decide) (Nat.le_of_ble_eq_true rfl) (Nat.le_of_ble_eq_true rfl) dX8_init_8 (fun q1 H hP hD hSw => ?_)
  have hP : va_P D ln_cl [(h0, .inr (8, [.null, .null, .int 0])), (q1, .inl (g 1, 4096, .inl (fun _ => 0)))] H := hP
  have hD : va_D A [(h0, .inr (8, [.null, .null, .int 0])), (q1, .inl (g 1, 4096, .inl (fun _ => 0)))] := hD
  refine ln_pF X hnm hP hD hSw 0 rfl rfl kl_X8 tyX8 tyX8_ok nmX8 1 (by decide) mF_X8_9 rfl rfl (tyX8_ok 1 (by decide)) rfl rfl (Nat.le_of_ble_eq_true rfl) dX8_init_10 (fun H locs hP hD hSw => ?_)
  have hP : va_P D ln_cl [(h0, .inr (8, [.null, .ref q1, .int 0])), (q1, .inl (g 1, 4096, .inl (fun _ => 0)))] H := hP
  have hD : va_D A [(h0, .inr (8, [.null, .ref q1, .int 0])), (q1, .inl (g 1, 4096, .inl (fun _ => 0)))] := hD
  refine lv_aload_n X.1 X.2.1 dX8_init_13 rfl (lv_at hl 0 rfl) ?_
  refine lv_aload_n X.1 X.2.1 dX8_init_14 rfl (lv_at hl 1 rfl) ?_
  refine ln_pF X hnm hP hD hSw 0 rfl rfl kl_X8 tyX8 tyX8_ok nmX8 0 (by decide) mF_X8_15 rfl rfl (tyX8_ok 0 (by decide)) rfl rfl (Nat.le_of_ble_eq_true rfl) dX8_init_15 (fun H locs hP hD hSw => ?_)
  have hP : va_P D ln_cl [(h0, .inr (8, [.ref n1, .ref q1, .int 0])), (q1, .inl (g 1, 4096, .inl (fun _ => 0)))] H := hP
  have hD : va_D A [(h0, .inr (8, [.ref n1, .ref q1, .int 0])), (q1, .inl (g 1, 4096, .inl (fun _ => 0)))] := hD
  subst hQ0
  exact ln_retK (Wd := wd_X8 g h0 n1) (fun k => [q1].getD k 0) X hr hlk hP hD hSw trivial dX8_init_18
def wd_X3 (g : Nat → ClassId) (h0 n1 n2 : Nat) (b : Nat → Nat) : va_W := [(h0, .inr (3, [.ref (n1), .ref (n2), .ref (b 0), .ref (b 1)])), (b 0, .inl (g 4, 3, .inr (.inr (.inr (.inr (fun i => if i < 3 then some (b (2 + i)) else none)))))), (b 2, .inl (g 2, 4096, .inl (fun _ => 0))), (b 3, .inl (g 2, 4096, .inl (fun _ => 0))), (b 4, .inl (g 2, 4096, .inl (fun _ => 0))), (b 1, .inl (g 0, 3, .inl (fun _ => 0)))]
set_option maxHeartbeats 4000000 in
set_option maxRecDepth 100000 in
theorem c_X3_init (l : Launch) (D : va_G) (g : Nat → ClassId) (h0 n1 n2 : Nat) (d : Nat) (hd1 : 1 ≤ d) : ln_K l D g yX3_init (.code yX3_init cX3_init 3 none) d 5 12294 [.ref h0, .ref n1, .ref n2] [(h0, .inr (3, [.null, .null, .null, .null]))] (wd_X3 g h0 n1 n2) (fun _ => True) := by
  refine ln_ofK (by decide +kernel) rfl (Nat.le_of_ble_eq_true rfl) (fun prg env sta mid args below meth cod ls A hr hlk hnm X hO hA hP hD hSw hl => ?_)
  have hl : lv_has ls 3 [(0, .ref h0), (1, .ref n1), (2, .ref n2)] := hl
  generalize hQ0 : (MQ below (va_Qv (fun _ => True) (fun (b : Nat → Nat) t => va_P D ln_cl (wd_X3 g h0 n1 n2 b) t.heap ∧ va_D A (wd_X3 g h0 n1 n2 b)) A) args sta 5 12294 A) = Q0
  refine lv_aload_n X.1 X.2.1 dX3_init_0 rfl (lv_at hl 0 rfl) ?_
  refine ln_objI X hd1 mM_X3_3 hl.1 (Nat.le_of_ble_eq_true rfl) dX3_init_1 ?_
  refine lv_aload_n X.1 X.2.1 dX3_init_4 rfl (lv_at hl 0 rfl) ?_
  refine lv_iconst (v := nI 3) X.1 X.2.1 dX3_init_5 (by decide) ?_
  refine lv_sipush (v := nI 4096) X.1 X.2.1 dX3_init_6 (by decide) ?_
  refine ln_newM X hO (ty := .byte) (Or.inr rfl) (by rw [ln_bbB]; exact mL_X3_9) mA_byte rfl 2 4 rfl rfl hP hD hSw hA 3 4096 (by decide) (by decide) (Nat.le_of_ble_eq_true rfl) (Nat.le_of_ble_eq_true rfl) dX3_init_9 (fun q1 r H hP hD hSw => ?_)
  have hP : va_P D ln_cl [(h0, .inr (3, [.null, .null, .null, .null])), (q1, .inl (g 4, 3, .inr (.inr (.inr (.inr (fun i => if i < 3 then some (r i) else none)))))), (r 0, .inl (g 2, 4096, .inl (fun _ => 0))), (r 1, .inl (g 2, 4096, .inl (fun _ => 0))), (r 2, .inl (g 2, 4096, .inl (fun _ => 0)))] H := hP
  have hD : va_D A [(h0, .inr (3, [.null, .null, .null, .null])), (q1, .inl (g 4, 3, .inr (.inr (.inr (.inr (fun i => if i < 3 then some (r i) else none)))))), (r 0, .inl (g 2, 4096, .inl (fun _ => 0))), (r 1, .inl (g 2, 4096, .inl (fun _ => 0))), (r 2, .inl (g 2, 4096, .inl (fun _ => 0)))] := hD
  refine ln_pF X hnm hP hD hSw 0 rfl rfl kl_X3 tyX3 tyX3_ok nmX3 2 (by decide) mF_X3_11 rfl rfl (tyX3_ok 2 (by decide)) rfl rfl (Nat.le_of_ble_eq_true rfl) dX3_init_13 (fun H locs hP hD hSw => ?_)
  have hP : va_P D ln_cl [(h0, .inr (3, [.null, .null, .ref q1, .null])), (q1, .inl (g 4, 3, .inr (.inr (.inr (.inr (fun i => if i < 3 then some (r i) else none)))))), (r 0, .inl (g 2, 4096, .inl (fun _ => 0))), (r 1, .inl (g 2, 4096, .inl (fun _ => 0))), (r 2, .inl (g 2, 4096, .inl (fun _ => 0)))] H := hP
  have hD : va_D A [(h0, .inr (3, [.null, .null, .ref q1, .null])), (q1, .inl (g 4, 3, .inr (.inr (.inr (.inr (fun i => if i < 3 then some (r i) else none)))))), (r 0, .inl (g 2, 4096, .inl (fun _ => 0))), (r 1, .inl (g 2, 4096, .inl (fun _ => 0))), (r 2, .inl (g 2, 4096, .inl (fun _ => 0)))] := hD
  refine lv_aload_n X.1 X.2.1 dX3_init_16 rfl (lv_at hl 0 rfl) ?_
  refine lv_iconst (v := nI 3) X.1 X.2.1 dX3_init_17 (by decide) ?_
  refine ln_newA X (atype := .int) (ty := .int) rfl (fun C h => by cases h) mA_int rfl 0 rfl rfl (by decide) hP hD hSw hA 3 (by decide) (Nat.le_of_ble_eq_true rfl) (Nat.le_of_ble_eq_true rfl) dX3_init_18 (fun q2 H hP hD hSw => ?_)
  have hP : va_P D ln_cl [(h0, .inr (3, [.null, .null, .ref q1, .null])), (q1, .inl (g 4, 3, .inr (.inr (.inr (.inr (fun i => if i < 3 then some (r i) else none)))))), (r 0, .inl (g 2, 4096, .inl (fun _ => 0))), (r 1, .inl (g 2, 4096, .inl (fun _ => 0))), (r 2, .inl (g 2, 4096, .inl (fun _ => 0))), (q2, .inl (g 0, 3, .inl (fun _ => 0)))] H := hP
  have hD : va_D A [(h0, .inr (3, [.null, .null, .ref q1, .null])), (q1, .inl (g 4, 3, .inr (.inr (.inr (.inr (fun i => if i < 3 then some (r i) else none)))))), (r 0, .inl (g 2, 4096, .inl (fun _ => 0))), (r 1, .inl (g 2, 4096, .inl (fun _ => 0))), (r 2, .inl (g 2, 4096, .inl (fun _ => 0))), (q2, .inl (g 0, 3, .inl (fun _ => 0)))] := hD
  refine ln_pF X hnm hP hD hSw 0 rfl rfl kl_X3 tyX3 tyX3_ok nmX3 3 (by decide) mF_X3_16 rfl rfl (tyX3_ok 3 (by decide)) rfl rfl (Nat.le_of_ble_eq_true rfl) dX3_init_20 (fun H locs hP hD hSw => ?_)
  have hP : va_P D ln_cl [(h0, .inr (3, [.null, .null, .ref q1, .ref q2])), (q1, .inl (g 4, 3, .inr (.inr (.inr (.inr (fun i => if i < 3 then some (r i) else none)))))), (r 0, .inl (g 2, 4096, .inl (fun _ => 0))), (r 1, .inl (g 2, 4096, .inl (fun _ => 0))), (r 2, .inl (g 2, 4096, .inl (fun _ => 0))), (q2, .inl (g 0, 3, .inl (fun _ => 0)))] H := hP
  have hD : va_D A [(h0, .inr (3, [.null, .null, .ref q1, .ref q2])), (q1, .inl (g 4, 3, .inr (.inr (.inr (.inr (fun i => if i < 3 then some (r i) else none)))))), (r 0, .inl (g 2, 4096, .inl (fun _ => 0))), (r 1, .inl (g 2, 4096, .inl (fun _ => 0))), (r 2, .inl (g 2, 4096, .inl (fun _ => 0))), (q2, .inl (g 0, 3, .inl (fun _ => 0)))] := hD
  refine lv_aload_n X.1 X.2.1 dX3_init_23 rfl (lv_at hl 0 rfl) ?_
  refine lv_aload_n X.1 X.2.1 dX3_init_24 rfl (lv_at hl 1 rfl) ?_
  refine ln_pF X hnm hP hD hSw 0 rfl rfl kl_X3 tyX3 tyX3_ok nmX3 0 (by decide) mF_X3_20 rfl rfl (tyX3_ok 0 (by decide)) rfl rfl (Nat.le_of_ble_eq_true rfl) dX3_init_25 (fun H locs hP hD hSw => ?_)
  have hP : va_P D ln_cl [(h0, .inr (3, [.ref n1, .null, .ref q1, .ref q2])), (q1, .inl (g 4, 3, .inr (.inr (.inr (.inr (fun i => if i < 3 then some (r i) else none)))))), (r 0, .inl (g 2, 4096, .inl (fun _ => 0))), (r 1, .inl (g 2, 4096, .inl (fun _ => 0))), (r 2, .inl (g 2, 4096, .inl (fun _ => 0))), (q2, .inl (g 0, 3, .inl (fun _ => 0)))] H := hP
  have hD : va_D A [(h0, .inr (3, [.ref n1, .null, .ref q1, .ref q2])), (q1, .inl (g 4, 3, .inr (.inr (.inr (.inr (fun i => if i < 3 then some (r i) else none)))))), (r 0, .inl (g 2, 4096, .inl (fun _ => 0))), (r 1, .inl (g 2, 4096, .inl (fun _ => 0))), (r 2, .inl (g 2, 4096, .inl (fun _ => 0))), (q2, .inl (g 0, 3, .inl (fun _ => 0)))] := hD
  refine lv_aload_n X.1 X.2.1 dX3_init_28 rfl (lv_at hl 0 rfl) ?_
  refine lv_aload_n X.1 X.2.1 dX3_init_29 rfl (lv_at hl 2 rfl) ?_
  refine ln_pF X hnm hP hD hSw 0 rfl rfl kl_X3 tyX3 tyX3_ok nmX3 1 (by decide) mF_X3_24 rfl rfl (tyX3_ok 1 (by decide)) rfl rfl (Nat.le_of_ble_eq_true rfl) dX3_init_30 (fun H locs hP hD hSw => ?_)
  have hP : va_P D ln_cl [(h0, .inr (3, [.ref n1, .ref n2, .ref q1, .ref q2])), (q1, .inl (g 4, 3, .inr (.inr (.inr (.inr (fun i => if i < 3 then some (r i) else none)))))), (r 0, .inl (g 2, 4096, .inl (fun _ => 0))), (r 1, .inl (g 2, 4096, .inl (fun _ => 0))), (r 2, .inl (g 2, 4096, .inl (fun _ => 0))), (q2, .inl (g 0, 3, .inl (fun _ => 0)))] H := hP
  have hD : va_D A [(h0, .inr (3, [.ref n1, .ref n2, .ref q1, .ref q2])), (q1, .inl (g 4, 3, .inr (.inr (.inr (.inr (fun i => if i < 3 then some (r i) else none)))))), (r 0, .inl (g 2, 4096, .inl (fun _ => 0))), (r 1, .inl (g 2, 4096, .inl (fun _ => 0))), (r 2, .inl (g 2, 4096, .inl (fun _ => 0))), (q2, .inl (g 0, 3, .inl (fun _ => 0)))] := hD
  subst hQ0
  obtain ⟨b, b0, b1, br⟩ : ∃ b : Nat → Nat, b 0 = q1 ∧ b 1 = q2 ∧ (fun i => b (2 + i)) = r := ⟨fun k => if k < 2 then [q1, q2].getD k 0 else r (k - 2), rfl, rfl, funext (fun i => by show (if 2 + i < 2 then _ else r (2 + i - 2)) = r i; rw [if_neg (by omega), Nat.add_sub_cancel_left])⟩
  subst b0 b1 br
  exact ln_retK (Wd := wd_X3 g h0 n1 n2) b X hr hlk hP hD hSw trivial dX3_init_33
