def w1X7_init (E : EC) (h0 : Nat) (x : Nat → Nat) : va_W := [(h0, .inr (7, [.ref (x 0), .int 0, .int 0])), ((x 0), .inl (E.2 0, 12, .inl (fun _ => 0)))]
abbrev rkX7_init : Room := { frames := 1, cells := 1, slots := 12, locals := 20 }
set_option maxHeartbeats 40000000 in
set_option maxRecDepth 100000 in
theorem kX7_init {l : Launch} {E : EC} (h0 sz : Nat) : Met l yX7_init (.code yX7_init cX7_init 1 none :: big) rkX7_init (va_Pc [.ref h0] (Ip E sz [(h0, .inr (7, [.null, .int 0, .int 0]))])) (va_Qv (fun _ : Unit => True) (fun _ t => Iq E (w1X7_init E h0) (va_A [(h0, .inr (7, [.null, .int 0, .int 0]))] sz) t) (va_A [(h0, .inr (7, [.null, .int 0, .int 0]))] sz)) 1 12 (va_A [(h0, .inr (7, [.null, .int 0, .int 0]))] sz) := by
  refine x_imet (by decide +kernel) (Nat.le_of_ble_eq_true rfl) rfl ?_
  intro p e s m args below meth c ls A C hret hin hA hP hD hS hl
  have hx := C.1
  have hb := C.2.1
  have hl : lv_has ls 1 [(0, .ref h0)] := hl
  refine lv_aload_n hx hb dX7_init_0 rfl (lv_at hl 0 rfl) ?_
  refine W.objInit hx hb C.2.2.2.1 (C.2.2.2.2.1 _ q107) (C.2.2.2.2.1 _ q64) (C.2.2.2.2.1 _ q65) rfl (hl.1.trans C.2.2.1.symm) rfl dX7_init_1 (Nat.le_of_ble_eq_true rfl) (Nat.le_of_ble_eq_true rfl) ?_
  refine W.eq (g2 := F0 m 4 ls []) rfl ?_
  refine lv_aload_n hx hb dX7_init_4 rfl (lv_at hl 0 rfl) ?_
  refine lv_bipush (v := 12) hx hb dX7_init_5 (by decide) ?_
  refine i_newa (atype := .int) (a0 := (12, .inl (fun _ => 0))) (N' := 12) C hP hD hS hA 0 rfl rfl q120 (fun _ => rfl) (by decide) (by decide) (Nat.le_of_ble_eq_true rfl) (Nat.le_of_ble_eq_true rfl) (Nat.le_of_ble_eq_true rfl) dX7_init_7 (fun q1 H hP hD hS => ?_)
  have hP : va_P E.1 cls [(h0, .inr (7, [.null, .int 0, .int 0])), (q1, .inl (E.2 0, 12, .inl (fun _ => 0)))] H := hP
  have hD : va_D A [(h0, .inr (7, [.null, .int 0, .int 0])), (q1, .inl (E.2 0, 12, .inl (fun _ => 0)))] := hD
  refine i_putF C hin hP hD hS 0 rfl (K := 7) (j := 0) (by decide) (by decide) rfl rfl rfl (tyK 7 (by decide) 0 (by decide)) rfl rfl (Nat.le_of_ble_eq_true rfl) q108 dX7_init_9 (fun H locs hP hD hS => ?_)
  have hP : va_P E.1 cls [(h0, .inr (7, [.ref q1, .int 0, .int 0])), (q1, .inl (E.2 0, 12, .inl (fun _ => 0)))] H := hP
  have hD : va_D A [(h0, .inr (7, [.ref q1, .int 0, .int 0])), (q1, .inl (E.2 0, 12, .inl (fun _ => 0)))] := hD
  exact i_ret C hret hP hD hS (fun i => match i with | 0 => q1 | _ => 0) rfl (Nat.le_of_ble_eq_true rfl) (Nat.le_of_ble_eq_true rfl) dX7_init_12
def w1X4_init (E : EC) (h0 : Nat) (x : Nat → Nat) : va_W := [(h0, .inr (4, [.ref (x 0), .ref (x 1), .ref (x 2), .int 0, .int 0, .int 0, .int 0, .int 0])), ((x 0), .inl (E.2 1, 200, .inl (fun _ => 0))), ((x 1), .inl (E.2 0, 100, .inl (fun _ => 0))), ((x 2), .inl (E.2 0, 100, .inl (fun _ => 0)))]
abbrev rkX4_init : Room := { frames := 1, cells := 3, slots := 400, locals := 20 }
set_option maxHeartbeats 40000000 in
set_option maxRecDepth 100000 in
theorem kX4_init {l : Launch} {E : EC} (h0 sz : Nat) : Met l yX4_init (.code yX4_init cX4_init 1 none :: big) rkX4_init (va_Pc [.ref h0] (Ip E sz [(h0, .inr (4, [.null, .null, .null, .int 0, .int 0, .int 0, .int 0, .int 0]))])) (va_Qv (fun _ : Unit => True) (fun _ t => Iq E (w1X4_init E h0) (va_A [(h0, .inr (4, [.null, .null, .null, .int 0, .int 0, .int 0, .int 0, .int 0]))] sz) t) (va_A [(h0, .inr (4, [.null, .null, .null, .int 0, .int 0, .int 0, .int 0, .int 0]))] sz)) 3 400 (va_A [(h0, .inr (4, [.null, .null, .null, .int 0, .int 0, .int 0, .int 0, .int 0]))] sz) := by
  refine x_imet (by decide +kernel) (Nat.le_of_ble_eq_true rfl) rfl ?_
  intro p e s m args below meth c ls A C hret hin hA hP hD hS hl
  have hx := C.1
  have hb := C.2.1
  have hl : lv_has ls 1 [(0, .ref h0)] := hl
  refine lv_aload_n hx hb dX4_init_0 rfl (lv_at hl 0 rfl) ?_
  refine W.objInit hx hb C.2.2.2.1 (C.2.2.2.2.1 _ q240) (C.2.2.2.2.1 _ q64) (C.2.2.2.2.1 _ q65) rfl (hl.1.trans C.2.2.1.symm) rfl dX4_init_1 (Nat.le_of_ble_eq_true rfl) (Nat.le_of_ble_eq_true rfl) ?_
  refine W.eq (g2 := F0 m 4 ls []) rfl ?_
  refine lv_aload_n hx hb dX4_init_4 rfl (lv_at hl 0 rfl) ?_
  refine lv_sipush (v := 200) hx hb dX4_init_5 (by decide) ?_
  refine i_newa (atype := .byte) (a0 := (200, .inl (fun _ => 0))) (N' := 200) C hP hD hS hA 1 rfl rfl q275 (fun _ => rfl) (by decide) (by decide) (Nat.le_of_ble_eq_true rfl) (Nat.le_of_ble_eq_true rfl) (Nat.le_of_ble_eq_true rfl) dX4_init_8 (fun q1 H hP hD hS => ?_)
  have hP : va_P E.1 cls [(h0, .inr (4, [.null, .null, .null, .int 0, .int 0, .int 0, .int 0, .int 0])), (q1, .inl (E.2 1, 200, .inl (fun _ => 0)))] H := hP
  have hD : va_D A [(h0, .inr (4, [.null, .null, .null, .int 0, .int 0, .int 0, .int 0, .int 0])), (q1, .inl (E.2 1, 200, .inl (fun _ => 0)))] := hD
  refine i_putF C hin hP hD hS 0 rfl (K := 4) (j := 0) (by decide) (by decide) rfl rfl rfl (tyK 4 (by decide) 0 (by decide)) rfl rfl (Nat.le_of_ble_eq_true rfl) q241 dX4_init_10 (fun H locs hP hD hS => ?_)
  have hP : va_P E.1 cls [(h0, .inr (4, [.ref q1, .null, .null, .int 0, .int 0, .int 0, .int 0, .int 0])), (q1, .inl (E.2 1, 200, .inl (fun _ => 0)))] H := hP
  have hD : va_D A [(h0, .inr (4, [.ref q1, .null, .null, .int 0, .int 0, .int 0, .int 0, .int 0])), (q1, .inl (E.2 1, 200, .inl (fun _ => 0)))] := hD
  refine lv_aload_n hx hb dX4_init_13 rfl (lv_at hl 0 rfl) ?_
  refine lv_bipush (v := 100) hx hb dX4_init_14 (by decide) ?_
  refine i_newa (atype := .int) (a0 := (100, .inl (fun _ => 0))) (N' := 100) C hP hD hS hA 0 rfl rfl q120 (fun _ => rfl) (by decide) (by decide) (Nat.le_of_ble_eq_true rfl) (Nat.le_of_ble_eq_true rfl) (Nat.le_of_ble_eq_true rfl) dX4_init_16 (fun q2 H hP hD hS => ?_)
  have hP : va_P E.1 cls [(h0, .inr (4, [.ref q1, .null, .null, .int 0, .int 0, .int 0, .int 0, .int 0])), (q1, .inl (E.2 1, 200, .inl (fun _ => 0))), (q2, .inl (E.2 0, 100, .inl (fun _ => 0)))] H := hP
  have hD : va_D A [(h0, .inr (4, [.ref q1, .null, .null, .int 0, .int 0, .int 0, .int 0, .int 0])), (q1, .inl (E.2 1, 200, .inl (fun _ => 0))), (q2, .inl (E.2 0, 100, .inl (fun _ => 0)))] := hD
  refine i_putF C hin hP hD hS 0 rfl (K := 4) (j := 1) (by decide) (by decide) rfl rfl rfl (tyK 4 (by decide) 1 (by decide)) rfl rfl (Nat.le_of_ble_eq_true rfl) q242 dX4_init_18 (fun H locs hP hD hS => ?_)
  have hP : va_P E.1 cls [(h0, .inr (4, [.ref q1, .ref q2, .null, .int 0, .int 0, .int 0, .int 0, .int 0])), (q1, .inl (E.2 1, 200, .inl (fun _ => 0))), (q2, .inl (E.2 0, 100, .inl (fun _ => 0)))] H := hP
  have hD : va_D A [(h0, .inr (4, [.ref q1, .ref q2, .null, .int 0, .int 0, .int 0, .int 0, .int 0])), (q1, .inl (E.2 1, 200, .inl (fun _ => 0))), (q2, .inl (E.2 0, 100, .inl (fun _ => 0)))] := hD
  refine lv_aload_n hx hb dX4_init_21 rfl (lv_at hl 0 rfl) ?_
  refine lv_bipush (v := 100) hx hb dX4_init_22 (by decide) ?_
  refine i_newa (atype := .int) (a0 := (100, .inl (fun _ => 0))) (N' := 100) C hP hD hS hA 0 rfl rfl q120 (fun _ => rfl) (by decide) (by decide) (Nat.le_of_ble_eq_true rfl) (Nat.le_of_ble_eq_true rfl) (Nat.le_of_ble_eq_true rfl) dX4_init_24 (fun q3 H hP hD hS => ?_)
  have hP : va_P E.1 cls [(h0, .inr (4, [.ref q1, .ref q2, .null, .int 0, .int 0, .int 0, .int 0, .int 0])), (q1, .inl (E.2 1, 200, .inl (fun _ => 0))), (q2, .inl (E.2 0, 100, .inl (fun _ => 0))), (q3, .inl (E.2 0, 100, .inl (fun _ => 0)))] H := hP
  have hD : va_D A [(h0, .inr (4, [.ref q1, .ref q2, .null, .int 0, .int 0, .int 0, .int 0, .int 0])), (q1, .inl (E.2 1, 200, .inl (fun _ => 0))), (q2, .inl (E.2 0, 100, .inl (fun _ => 0))), (q3, .inl (E.2 0, 100, .inl (fun _ => 0)))] := hD
  refine i_putF C hin hP hD hS 0 rfl (K := 4) (j := 2) (by decide) (by decide) rfl rfl rfl (tyK 4 (by decide) 2 (by decide)) rfl rfl (Nat.le_of_ble_eq_true rfl) q243 dX4_init_26 (fun H locs hP hD hS => ?_)
  have hP : va_P E.1 cls [(h0, .inr (4, [.ref q1, .ref q2, .ref q3, .int 0, .int 0, .int 0, .int 0, .int 0])), (q1, .inl (E.2 1, 200, .inl (fun _ => 0))), (q2, .inl (E.2 0, 100, .inl (fun _ => 0))), (q3, .inl (E.2 0, 100, .inl (fun _ => 0)))] H := hP
  have hD : va_D A [(h0, .inr (4, [.ref q1, .ref q2, .ref q3, .int 0, .int 0, .int 0, .int 0, .int 0])), (q1, .inl (E.2 1, 200, .inl (fun _ => 0))), (q2, .inl (E.2 0, 100, .inl (fun _ => 0))), (q3, .inl (E.2 0, 100, .inl (fun _ => 0)))] := hD
  exact i_ret C hret hP hD hS (fun i => match i with | 0 => q1 | 1 => q2 | 2 => q3 | _ => 0) rfl (Nat.le_of_ble_eq_true rfl) (Nat.le_of_ble_eq_true rfl) dX4_init_29
def w1X5_init (E : EC) (h0 : Nat) (x : Nat → Nat) : va_W := [(h0, .inr (5, [.ref (x 0), .int (-1 : Int32)])), ((x 0), .inl (E.2 1, 200, .inl (fun _ => 0)))]
abbrev rkX5_init : Room := { frames := 1, cells := 1, slots := 200, locals := 20 }
set_option maxHeartbeats 40000000 in
set_option maxRecDepth 100000 in
theorem kX5_init {l : Launch} {E : EC} (h0 sz : Nat) : Met l yX5_init (.code yX5_init cX5_init 1 none :: big) rkX5_init (va_Pc [.ref h0] (Ip E sz [(h0, .inr (5, [.null, .int 0]))])) (va_Qv (fun _ : Unit => True) (fun _ t => Iq E (w1X5_init E h0) (va_A [(h0, .inr (5, [.null, .int 0]))] sz) t) (va_A [(h0, .inr (5, [.null, .int 0]))] sz)) 1 200 (va_A [(h0, .inr (5, [.null, .int 0]))] sz) := by
  refine x_imet (by decide +kernel) (Nat.le_of_ble_eq_true rfl) rfl ?_
  intro p e s m args below meth c ls A C hret hin hA hP hD hS hl
  have hx := C.1
  have hb := C.2.1
  have hl : lv_has ls 1 [(0, .ref h0)] := hl
  refine lv_aload_n hx hb dX5_init_0 rfl (lv_at hl 0 rfl) ?_
  refine W.objInit hx hb C.2.2.2.1 (C.2.2.2.2.1 _ q280) (C.2.2.2.2.1 _ q64) (C.2.2.2.2.1 _ q65) rfl (hl.1.trans C.2.2.1.symm) rfl dX5_init_1 (Nat.le_of_ble_eq_true rfl) (Nat.le_of_ble_eq_true rfl) ?_
  refine W.eq (g2 := F0 m 4 ls []) rfl ?_
  refine lv_aload_n hx hb dX5_init_4 rfl (lv_at hl 0 rfl) ?_
  refine lv_sipush (v := 200) hx hb dX5_init_5 (by decide) ?_
  refine i_newa (atype := .byte) (a0 := (200, .inl (fun _ => 0))) (N' := 200) C hP hD hS hA 1 rfl rfl q275 (fun _ => rfl) (by decide) (by decide) (Nat.le_of_ble_eq_true rfl) (Nat.le_of_ble_eq_true rfl) (Nat.le_of_ble_eq_true rfl) dX5_init_8 (fun q1 H hP hD hS => ?_)
  have hP : va_P E.1 cls [(h0, .inr (5, [.null, .int 0])), (q1, .inl (E.2 1, 200, .inl (fun _ => 0)))] H := hP
  have hD : va_D A [(h0, .inr (5, [.null, .int 0])), (q1, .inl (E.2 1, 200, .inl (fun _ => 0)))] := hD
  refine i_putF C hin hP hD hS 0 rfl (K := 5) (j := 0) (by decide) (by decide) rfl rfl rfl (tyK 5 (by decide) 0 (by decide)) rfl rfl (Nat.le_of_ble_eq_true rfl) q281 dX5_init_10 (fun H locs hP hD hS => ?_)
  have hP : va_P E.1 cls [(h0, .inr (5, [.ref q1, .int 0])), (q1, .inl (E.2 1, 200, .inl (fun _ => 0)))] H := hP
  have hD : va_D A [(h0, .inr (5, [.ref q1, .int 0])), (q1, .inl (E.2 1, 200, .inl (fun _ => 0)))] := hD
  refine lv_aload_n hx hb dX5_init_13 rfl (lv_at hl 0 rfl) ?_
  refine lv_iconst (v := (-1)) hx hb dX5_init_14 (by decide) ?_
  refine i_put C hP hD hS 0 rfl (K := 5) (j := 1) (by decide) (by decide) rfl rfl (tyK 5 (by decide) 1 (by decide)) rfl rfl (Nat.le_of_ble_eq_true rfl) q282 dX5_init_15 (fun H locs hP hD hS => ?_)
  have hP : va_P E.1 cls [(h0, .inr (5, [.ref q1, .int (-1 : Int32)])), (q1, .inl (E.2 1, 200, .inl (fun _ => 0)))] H := hP
  have hD : va_D A [(h0, .inr (5, [.ref q1, .int (-1 : Int32)])), (q1, .inl (E.2 1, 200, .inl (fun _ => 0)))] := hD
  exact i_ret C hret hP hD hS (fun i => match i with | 0 => q1 | _ => 0) rfl (Nat.le_of_ble_eq_true rfl) (Nat.le_of_ble_eq_true rfl) dX5_init_18
def w1X0_init (E : EC) (h0 : Nat) (a1 : Int32) (a2 : Int32) (x : Nat → Nat) : va_W := [(h0, .inr (0, [.int a1, .int a2, .ref (x 0), .int 0])), ((x 0), .inl (E.2 1, 12, .inl (fun _ => 0)))]
abbrev rkX0_init : Room := { frames := 1, cells := 1, slots := 12, locals := 20 }
set_option maxHeartbeats 40000000 in
set_option maxRecDepth 100000 in
theorem kX0_init {l : Launch} {E : EC} (h0 sz : Nat) (a1 : Int32) (a2 : Int32) : Met l yX0_init (.code yX0_init cX0_init 3 none :: big) rkX0_init (va_Pc [.ref h0, .int a1, .int a2] (Ip E sz [(h0, .inr (0, [.int 0, .int 0, .null, .int 0]))])) (va_Qv (fun _ : Unit => True) (fun _ t => Iq E (w1X0_init E h0 a1 a2) (va_A [(h0, .inr (0, [.int 0, .int 0, .null, .int 0]))] sz) t) (va_A [(h0, .inr (0, [.int 0, .int 0, .null, .int 0]))] sz)) 1 12 (va_A [(h0, .inr (0, [.int 0, .int 0, .null, .int 0]))] sz) := by
  refine x_imet (by decide +kernel) (Nat.le_of_ble_eq_true rfl) rfl ?_
  intro p e s m args below meth c ls A C hret hin hA hP hD hS hl
  have hx := C.1
  have hb := C.2.1
  have hl : lv_has ls 3 [(0, .ref h0), (1, .int a1), (2, .int a2)] := hl
  refine lv_aload_n hx hb dX0_init_0 rfl (lv_at hl 0 rfl) ?_
  refine W.objInit hx hb C.2.2.2.1 (C.2.2.2.2.1 _ q551) (C.2.2.2.2.1 _ q64) (C.2.2.2.2.1 _ q65) rfl (hl.1.trans C.2.2.1.symm) rfl dX0_init_1 (Nat.le_of_ble_eq_true rfl) (Nat.le_of_ble_eq_true rfl) ?_
  refine W.eq (g2 := F0 m 4 ls []) rfl ?_
  refine lv_aload_n hx hb dX0_init_4 rfl (lv_at hl 0 rfl) ?_
  refine lv_bipush (v := 12) hx hb dX0_init_5 (by decide) ?_
  refine i_newa (atype := .byte) (a0 := (12, .inl (fun _ => 0))) (N' := 12) C hP hD hS hA 1 rfl rfl q275 (fun _ => rfl) (by decide) (by decide) (Nat.le_of_ble_eq_true rfl) (Nat.le_of_ble_eq_true rfl) (Nat.le_of_ble_eq_true rfl) dX0_init_7 (fun q1 H hP hD hS => ?_)
  have hP : va_P E.1 cls [(h0, .inr (0, [.int 0, .int 0, .null, .int 0])), (q1, .inl (E.2 1, 12, .inl (fun _ => 0)))] H := hP
  have hD : va_D A [(h0, .inr (0, [.int 0, .int 0, .null, .int 0])), (q1, .inl (E.2 1, 12, .inl (fun _ => 0)))] := hD
  refine i_putF C hin hP hD hS 0 rfl (K := 0) (j := 2) (by decide) (by decide) rfl rfl rfl (tyK 0 (by decide) 2 (by decide)) rfl rfl (Nat.le_of_ble_eq_true rfl) q555 dX0_init_9 (fun H locs hP hD hS => ?_)
  have hP : va_P E.1 cls [(h0, .inr (0, [.int 0, .int 0, .ref q1, .int 0])), (q1, .inl (E.2 1, 12, .inl (fun _ => 0)))] H := hP
  have hD : va_D A [(h0, .inr (0, [.int 0, .int 0, .ref q1, .int 0])), (q1, .inl (E.2 1, 12, .inl (fun _ => 0)))] := hD
  refine lv_aload_n hx hb dX0_init_12 rfl (lv_at hl 0 rfl) ?_
  refine lv_iload_n hx hb dX0_init_13 rfl (lv_at hl 1 rfl) ?_
  refine i_putF C hin hP hD hS 0 rfl (K := 0) (j := 0) (by decide) (by decide) rfl rfl rfl (tyK 0 (by decide) 0 (by decide)) rfl rfl (Nat.le_of_ble_eq_true rfl) q552 dX0_init_14 (fun H locs hP hD hS => ?_)
  have hP : va_P E.1 cls [(h0, .inr (0, [.int a1, .int 0, .ref q1, .int 0])), (q1, .inl (E.2 1, 12, .inl (fun _ => 0)))] H := hP
  have hD : va_D A [(h0, .inr (0, [.int a1, .int 0, .ref q1, .int 0])), (q1, .inl (E.2 1, 12, .inl (fun _ => 0)))] := hD
  refine lv_aload_n hx hb dX0_init_17 rfl (lv_at hl 0 rfl) ?_
  refine lv_iload_n hx hb dX0_init_18 rfl (lv_at hl 2 rfl) ?_
  refine i_putF C hin hP hD hS 0 rfl (K := 0) (j := 1) (by decide) (by decide) rfl rfl rfl (tyK 0 (by decide) 1 (by decide)) rfl rfl (Nat.le_of_ble_eq_true rfl) q554 dX0_init_19 (fun H locs hP hD hS => ?_)
  have hP : va_P E.1 cls [(h0, .inr (0, [.int a1, .int a2, .ref q1, .int 0])), (q1, .inl (E.2 1, 12, .inl (fun _ => 0)))] H := hP
  have hD : va_D A [(h0, .inr (0, [.int a1, .int a2, .ref q1, .int 0])), (q1, .inl (E.2 1, 12, .inl (fun _ => 0)))] := hD
  exact i_ret C hret hP hD hS (fun i => match i with | 0 => q1 | _ => 0) rfl (Nat.le_of_ble_eq_true rfl) (Nat.le_of_ble_eq_true rfl) dX0_init_22
def w1X2_init (E : EC) (h0 : Nat) (x : Nat → Nat) : va_W := [(h0, .inr (2, [.ref (x 0), .ref (x 1), .int 0, .int 0])), ((x 0), .inl (E.2 6, 12, .inr (.inr (.inr (.inr (fun _ => none)))))), ((x 1), .inl (E.2 2, 12, .inl (fun _ => 0)))]
abbrev rkX2_init : Room := { frames := 1, cells := 2, slots := 24, locals := 20 }
set_option maxHeartbeats 40000000 in
set_option maxRecDepth 100000 in
theorem kX2_init {l : Launch} {E : EC} (h0 sz : Nat) : Met l yX2_init (.code yX2_init cX2_init 1 none :: big) rkX2_init (va_Pc [.ref h0] (Ip E sz [(h0, .inr (2, [.null, .null, .int 0, .int 0]))])) (va_Qv (fun _ : Unit => True) (fun _ t => Iq E (w1X2_init E h0) (va_A [(h0, .inr (2, [.null, .null, .int 0, .int 0]))] sz) t) (va_A [(h0, .inr (2, [.null, .null, .int 0, .int 0]))] sz)) 2 24 (va_A [(h0, .inr (2, [.null, .null, .int 0, .int 0]))] sz) := by
  refine x_imet (by decide +kernel) (Nat.le_of_ble_eq_true rfl) rfl ?_
  intro p e s m args below meth c ls A C hret hin hA hP hD hS hl
  have hx := C.1
  have hb := C.2.1
  have hl : lv_has ls 1 [(0, .ref h0)] := hl
  refine lv_aload_n hx hb dX2_init_0 rfl (lv_at hl 0 rfl) ?_
  refine W.objInit hx hb C.2.2.2.1 (C.2.2.2.2.1 _ q75) (C.2.2.2.2.1 _ q64) (C.2.2.2.2.1 _ q65) rfl (hl.1.trans C.2.2.1.symm) rfl dX2_init_1 (Nat.le_of_ble_eq_true rfl) (Nat.le_of_ble_eq_true rfl) ?_
  refine W.eq (g2 := F0 m 4 ls []) rfl ?_
  refine lv_aload_n hx hb dX2_init_4 rfl (lv_at hl 0 rfl) ?_
  refine lv_bipush (v := 12) hx hb dX2_init_5 (by decide) ?_
  refine i_newq (N' := 12) C hP hD hS hA 6 rfl q76 C.2.2.2.2.2.2.1.2.2.1 (by decide) (by decide) (Nat.le_of_ble_eq_true rfl) (Nat.le_of_ble_eq_true rfl) (Nat.le_of_ble_eq_true rfl) dX2_init_7 (fun q1 H hP hD hS => ?_)
  have hP : va_P E.1 cls [(h0, .inr (2, [.null, .null, .int 0, .int 0])), (q1, .inl (E.2 6, 12, .inr (.inr (.inr (.inr (fun _ => none))))))] H := hP
  have hD : va_D A [(h0, .inr (2, [.null, .null, .int 0, .int 0])), (q1, .inl (E.2 6, 12, .inr (.inr (.inr (.inr (fun _ => none))))))] := hD
  refine i_putF C hin hP hD hS 0 rfl (K := 2) (j := 0) (by decide) (by decide) rfl rfl rfl (tyK 2 (by decide) 0 (by decide)) rfl rfl (Nat.le_of_ble_eq_true rfl) q78 dX2_init_10 (fun H locs hP hD hS => ?_)
  have hP : va_P E.1 cls [(h0, .inr (2, [.ref q1, .null, .int 0, .int 0])), (q1, .inl (E.2 6, 12, .inr (.inr (.inr (.inr (fun _ => none))))))] H := hP
  have hD : va_D A [(h0, .inr (2, [.ref q1, .null, .int 0, .int 0])), (q1, .inl (E.2 6, 12, .inr (.inr (.inr (.inr (fun _ => none))))))] := hD
  refine lv_aload_n hx hb dX2_init_13 rfl (lv_at hl 0 rfl) ?_
  refine lv_bipush (v := 12) hx hb dX2_init_14 (by decide) ?_
  refine i_newa (atype := .boolean) (a0 := (12, .inl (fun _ => 0))) (N' := 12) C hP hD hS hA 2 rfl rfl q93 (fun _ => rfl) (by decide) (by decide) (Nat.le_of_ble_eq_true rfl) (Nat.le_of_ble_eq_true rfl) (Nat.le_of_ble_eq_true rfl) dX2_init_16 (fun q2 H hP hD hS => ?_)
  have hP : va_P E.1 cls [(h0, .inr (2, [.ref q1, .null, .int 0, .int 0])), (q1, .inl (E.2 6, 12, .inr (.inr (.inr (.inr (fun _ => none)))))), (q2, .inl (E.2 2, 12, .inl (fun _ => 0)))] H := hP
  have hD : va_D A [(h0, .inr (2, [.ref q1, .null, .int 0, .int 0])), (q1, .inl (E.2 6, 12, .inr (.inr (.inr (.inr (fun _ => none)))))), (q2, .inl (E.2 2, 12, .inl (fun _ => 0)))] := hD
  refine i_putF C hin hP hD hS 0 rfl (K := 2) (j := 1) (by decide) (by decide) rfl rfl rfl (tyK 2 (by decide) 1 (by decide)) rfl rfl (Nat.le_of_ble_eq_true rfl) q79 dX2_init_18 (fun H locs hP hD hS => ?_)
  have hP : va_P E.1 cls [(h0, .inr (2, [.ref q1, .ref q2, .int 0, .int 0])), (q1, .inl (E.2 6, 12, .inr (.inr (.inr (.inr (fun _ => none)))))), (q2, .inl (E.2 2, 12, .inl (fun _ => 0)))] H := hP
  have hD : va_D A [(h0, .inr (2, [.ref q1, .ref q2, .int 0, .int 0])), (q1, .inl (E.2 6, 12, .inr (.inr (.inr (.inr (fun _ => none)))))), (q2, .inl (E.2 2, 12, .inl (fun _ => 0)))] := hD
  exact i_ret C hret hP hD hS (fun i => match i with | 0 => q1 | 1 => q2 | _ => 0) rfl (Nat.le_of_ble_eq_true rfl) (Nat.le_of_ble_eq_true rfl) dX2_init_21
def w1X8_init (E : EC) (h0 : Nat) (a1 : Int32) (a2 : Int32) (a3 : Int32) (x : Nat → Nat) : va_W := [(h0, .inr (8, [.int a1, .int a2, .int a3, .ref (x 0), .ref (x 4), .int 0])), ((x 0), .inr (4, [.ref (x 1), .ref (x 2), .ref (x 3), .int 0, .int 0, .int 0, .int 0, .int 0])), ((x 1), .inl (E.2 1, 200, .inl (fun _ => 0))), ((x 2), .inl (E.2 0, 100, .inl (fun _ => 0))), ((x 3), .inl (E.2 0, 100, .inl (fun _ => 0))), ((x 4), .inr (7, [.ref (x 5), .int 0, .int 0])), ((x 5), .inl (E.2 0, 12, .inl (fun _ => 0)))]
abbrev rkX8_init : Room := { frames := 2, cells := 6, slots := 423, locals := 40 }
set_option maxHeartbeats 40000000 in
set_option maxRecDepth 100000 in
theorem kX8_init {l : Launch} {E : EC} (h0 sz : Nat) (a1 : Int32) (a2 : Int32) (a3 : Int32) : Met l yX8_init (.code yX8_init cX8_init 4 none :: big) rkX8_init (va_Pc [.ref h0, .int a1, .int a2, .int a3] (Ip E sz [(h0, .inr (8, [.int 0, .int 0, .int 0, .null, .null, .int 0]))])) (va_Qv (fun _ : Unit => True) (fun _ t => Iq E (w1X8_init E h0 a1 a2 a3) (va_A [(h0, .inr (8, [.int 0, .int 0, .int 0, .null, .null, .int 0]))] sz) t) (va_A [(h0, .inr (8, [.int 0, .int 0, .int 0, .null, .null, .int 0]))] sz)) 6 423 (va_A [(h0, .inr (8, [.int 0, .int 0, .int 0, .null, .null, .int 0]))] sz) := by
  refine x_imet (by decide +kernel) (Nat.le_of_ble_eq_true rfl) rfl ?_
  intro p e s m args below meth c ls A C hret hin hA hP hD hS hl
  have hx := C.1
  have hb := C.2.1
  have hl : lv_has ls 4 [(0, .ref h0), (1, .int a1), (2, .int a2), (3, .int a3)] := hl
  refine lv_aload_n hx hb dX8_init_0 rfl (lv_at hl 0 rfl) ?_
  refine W.objInit hx hb C.2.2.2.1 (C.2.2.2.2.1 _ q399) (C.2.2.2.2.1 _ q64) (C.2.2.2.2.1 _ q65) rfl (hl.1.trans C.2.2.1.symm) rfl dX8_init_1 (Nat.le_of_ble_eq_true rfl) (Nat.le_of_ble_eq_true rfl) ?_
  refine W.eq (g2 := F0 m 4 ls []) rfl ?_
  refine lv_aload_n hx hb dX8_init_4 rfl (lv_at hl 0 rfl) ?_
  refine i_new (fs := [.null, .null, .null, .int 0, .int 0, .int 0, .int 0, .int 0]) (N := 8) C hP hD hS hA 4 (by decide) rfl q400 q236 q51 (fun j hj => by have hj : j < 8 := hj; rcases (show j = 0 ∨ j = 1 ∨ j = 2 ∨ j = 3 ∨ j = 4 ∨ j = 5 ∨ j = 6 ∨ j = 7 by omega) with rfl | rfl | rfl | rfl | rfl | rfl | rfl | rfl <;> rfl) (Nat.le_of_ble_eq_true rfl) (Nat.le_of_ble_eq_true rfl) dX8_init_5 (fun q1 H hP hD hS => ?_)
  have hP : va_P E.1 cls [(h0, .inr (8, [.int 0, .int 0, .int 0, .null, .null, .int 0])), (q1, .inr (4, [.null, .null, .null, .int 0, .int 0, .int 0, .int 0, .int 0]))] H := hP
  have hD : va_D A [(h0, .inr (8, [.int 0, .int 0, .int 0, .null, .null, .int 0])), (q1, .inr (4, [.null, .null, .null, .int 0, .int 0, .int 0, .int 0, .int 0]))] := hD
  refine lv_dup hx hb dX8_init_8 rfl ?_
  have hPc := hP.sub (ws' := [(q1, .inr (4, [.null, .null, .null, .int 0, .int 0, .int 0, .int 0, .int 0]))]) [1] rfl
  refine i_fin (wr := [(h0, .inr (8, [.int 0, .int 0, .int 0, .null, .null, .int 0]))]) C hS hA hP hD 1 [0] rfl rfl (by decide) (by decide) (i_IN (n := 0) (rest := [.ref q1, .ref h0]) C hPc (kX4_init q1 _) q401 q238 q51 q239 rfl rfl rfl (by decide +kernel) ⟨(Nat.le_of_ble_eq_true rfl), (Nat.le_of_ble_eq_true rfl)⟩ ⟨(Nat.le_of_ble_eq_true rfl), (Nat.le_of_ble_eq_true rfl)⟩ rfl hl.1 rfl (Nat.le_of_ble_eq_true rfl) dX8_init_9) (fun x2 H locs hP hD hS => ?_)
  have hP : va_P E.1 cls [(h0, .inr (8, [.int 0, .int 0, .int 0, .null, .null, .int 0])), (q1, .inr (4, [.ref (x2 0), .ref (x2 1), .ref (x2 2), .int 0, .int 0, .int 0, .int 0, .int 0])), ((x2 0), .inl (E.2 1, 200, .inl (fun _ => 0))), ((x2 1), .inl (E.2 0, 100, .inl (fun _ => 0))), ((x2 2), .inl (E.2 0, 100, .inl (fun _ => 0)))] H := hP
  have hD : va_D A [(h0, .inr (8, [.int 0, .int 0, .int 0, .null, .null, .int 0])), (q1, .inr (4, [.ref (x2 0), .ref (x2 1), .ref (x2 2), .int 0, .int 0, .int 0, .int 0, .int 0])), ((x2 0), .inl (E.2 1, 200, .inl (fun _ => 0))), ((x2 1), .inl (E.2 0, 100, .inl (fun _ => 0))), ((x2 2), .inl (E.2 0, 100, .inl (fun _ => 0)))] := hD
  refine i_putF C hin hP hD hS 0 rfl (K := 8) (j := 3) (by decide) (by decide) rfl rfl rfl (tyK 8 (by decide) 3 (by decide)) rfl rfl (Nat.le_of_ble_eq_true rfl) q410 dX8_init_12 (fun H locs hP hD hS => ?_)
  have hP : va_P E.1 cls [(h0, .inr (8, [.int 0, .int 0, .int 0, .ref q1, .null, .int 0])), (q1, .inr (4, [.ref (x2 0), .ref (x2 1), .ref (x2 2), .int 0, .int 0, .int 0, .int 0, .int 0])), ((x2 0), .inl (E.2 1, 200, .inl (fun _ => 0))), ((x2 1), .inl (E.2 0, 100, .inl (fun _ => 0))), ((x2 2), .inl (E.2 0, 100, .inl (fun _ => 0)))] H := hP
  have hD : va_D A [(h0, .inr (8, [.int 0, .int 0, .int 0, .ref q1, .null, .int 0])), (q1, .inr (4, [.ref (x2 0), .ref (x2 1), .ref (x2 2), .int 0, .int 0, .int 0, .int 0, .int 0])), ((x2 0), .inl (E.2 1, 200, .inl (fun _ => 0))), ((x2 1), .inl (E.2 0, 100, .inl (fun _ => 0))), ((x2 2), .inl (E.2 0, 100, .inl (fun _ => 0)))] := hD
  refine lv_aload_n hx hb dX8_init_15 rfl (lv_at hl 0 rfl) ?_
  refine i_new (fs := [.null, .int 0, .int 0]) (N := 3) C hP hD hS hA 7 (by decide) rfl q402 q103 q47 (fun j hj => by have hj : j < 3 := hj; rcases (show j = 0 ∨ j = 1 ∨ j = 2 by omega) with rfl | rfl | rfl <;> rfl) (Nat.le_of_ble_eq_true rfl) (Nat.le_of_ble_eq_true rfl) dX8_init_16 (fun q3 H hP hD hS => ?_)
  have hP : va_P E.1 cls [(h0, .inr (8, [.int 0, .int 0, .int 0, .ref q1, .null, .int 0])), (q1, .inr (4, [.ref (x2 0), .ref (x2 1), .ref (x2 2), .int 0, .int 0, .int 0, .int 0, .int 0])), ((x2 0), .inl (E.2 1, 200, .inl (fun _ => 0))), ((x2 1), .inl (E.2 0, 100, .inl (fun _ => 0))), ((x2 2), .inl (E.2 0, 100, .inl (fun _ => 0))), (q3, .inr (7, [.null, .int 0, .int 0]))] H := hP
  have hD : va_D A [(h0, .inr (8, [.int 0, .int 0, .int 0, .ref q1, .null, .int 0])), (q1, .inr (4, [.ref (x2 0), .ref (x2 1), .ref (x2 2), .int 0, .int 0, .int 0, .int 0, .int 0])), ((x2 0), .inl (E.2 1, 200, .inl (fun _ => 0))), ((x2 1), .inl (E.2 0, 100, .inl (fun _ => 0))), ((x2 2), .inl (E.2 0, 100, .inl (fun _ => 0))), (q3, .inr (7, [.null, .int 0, .int 0]))] := hD
  refine lv_dup hx hb dX8_init_19 rfl ?_
  have hPc := hP.sub (ws' := [(q3, .inr (7, [.null, .int 0, .int 0]))]) [5] rfl
  refine i_fin (wr := [(h0, .inr (8, [.int 0, .int 0, .int 0, .ref q1, .null, .int 0])), (q1, .inr (4, [.ref (x2 0), .ref (x2 1), .ref (x2 2), .int 0, .int 0, .int 0, .int 0, .int 0])), ((x2 0), .inl (E.2 1, 200, .inl (fun _ => 0))), ((x2 1), .inl (E.2 0, 100, .inl (fun _ => 0))), ((x2 2), .inl (E.2 0, 100, .inl (fun _ => 0)))]) C hS hA hP hD 5 [0, 1, 2, 3, 4] rfl rfl (by decide) (by decide) (i_IN (n := 0) (rest := [.ref q3, .ref h0]) C hPc (kX7_init q3 _) q403 q105 q47 q106 rfl rfl rfl (by decide +kernel) ⟨(Nat.le_of_ble_eq_true rfl), (Nat.le_of_ble_eq_true rfl)⟩ ⟨(Nat.le_of_ble_eq_true rfl), (Nat.le_of_ble_eq_true rfl)⟩ rfl hl.1 rfl (Nat.le_of_ble_eq_true rfl) dX8_init_20) (fun x4 H locs hP hD hS => ?_)
  have hP : va_P E.1 cls [(h0, .inr (8, [.int 0, .int 0, .int 0, .ref q1, .null, .int 0])), (q1, .inr (4, [.ref (x2 0), .ref (x2 1), .ref (x2 2), .int 0, .int 0, .int 0, .int 0, .int 0])), ((x2 0), .inl (E.2 1, 200, .inl (fun _ => 0))), ((x2 1), .inl (E.2 0, 100, .inl (fun _ => 0))), ((x2 2), .inl (E.2 0, 100, .inl (fun _ => 0))), (q3, .inr (7, [.ref (x4 0), .int 0, .int 0])), ((x4 0), .inl (E.2 0, 12, .inl (fun _ => 0)))] H := hP
  have hD : va_D A [(h0, .inr (8, [.int 0, .int 0, .int 0, .ref q1, .null, .int 0])), (q1, .inr (4, [.ref (x2 0), .ref (x2 1), .ref (x2 2), .int 0, .int 0, .int 0, .int 0, .int 0])), ((x2 0), .inl (E.2 1, 200, .inl (fun _ => 0))), ((x2 1), .inl (E.2 0, 100, .inl (fun _ => 0))), ((x2 2), .inl (E.2 0, 100, .inl (fun _ => 0))), (q3, .inr (7, [.ref (x4 0), .int 0, .int 0])), ((x4 0), .inl (E.2 0, 12, .inl (fun _ => 0)))] := hD
  refine i_putF C hin hP hD hS 0 rfl (K := 8) (j := 4) (by decide) (by decide) rfl rfl rfl (tyK 8 (by decide) 4 (by decide)) rfl rfl (Nat.le_of_ble_eq_true rfl) q413 dX8_init_23 (fun H locs hP hD hS => ?_)
  have hP : va_P E.1 cls [(h0, .inr (8, [.int 0, .int 0, .int 0, .ref q1, .ref q3, .int 0])), (q1, .inr (4, [.ref (x2 0), .ref (x2 1), .ref (x2 2), .int 0, .int 0, .int 0, .int 0, .int 0])), ((x2 0), .inl (E.2 1, 200, .inl (fun _ => 0))), ((x2 1), .inl (E.2 0, 100, .inl (fun _ => 0))), ((x2 2), .inl (E.2 0, 100, .inl (fun _ => 0))), (q3, .inr (7, [.ref (x4 0), .int 0, .int 0])), ((x4 0), .inl (E.2 0, 12, .inl (fun _ => 0)))] H := hP
  have hD : va_D A [(h0, .inr (8, [.int 0, .int 0, .int 0, .ref q1, .ref q3, .int 0])), (q1, .inr (4, [.ref (x2 0), .ref (x2 1), .ref (x2 2), .int 0, .int 0, .int 0, .int 0, .int 0])), ((x2 0), .inl (E.2 1, 200, .inl (fun _ => 0))), ((x2 1), .inl (E.2 0, 100, .inl (fun _ => 0))), ((x2 2), .inl (E.2 0, 100, .inl (fun _ => 0))), (q3, .inr (7, [.ref (x4 0), .int 0, .int 0])), ((x4 0), .inl (E.2 0, 12, .inl (fun _ => 0)))] := hD
  refine lv_aload_n hx hb dX8_init_26 rfl (lv_at hl 0 rfl) ?_
  refine lv_iload_n hx hb dX8_init_27 rfl (lv_at hl 1 rfl) ?_
  refine i_putF C hin hP hD hS 0 rfl (K := 8) (j := 0) (by decide) (by decide) rfl rfl rfl (tyK 8 (by decide) 0 (by decide)) rfl rfl (Nat.le_of_ble_eq_true rfl) q404 dX8_init_28 (fun H locs hP hD hS => ?_)
  have hP : va_P E.1 cls [(h0, .inr (8, [.int a1, .int 0, .int 0, .ref q1, .ref q3, .int 0])), (q1, .inr (4, [.ref (x2 0), .ref (x2 1), .ref (x2 2), .int 0, .int 0, .int 0, .int 0, .int 0])), ((x2 0), .inl (E.2 1, 200, .inl (fun _ => 0))), ((x2 1), .inl (E.2 0, 100, .inl (fun _ => 0))), ((x2 2), .inl (E.2 0, 100, .inl (fun _ => 0))), (q3, .inr (7, [.ref (x4 0), .int 0, .int 0])), ((x4 0), .inl (E.2 0, 12, .inl (fun _ => 0)))] H := hP
  have hD : va_D A [(h0, .inr (8, [.int a1, .int 0, .int 0, .ref q1, .ref q3, .int 0])), (q1, .inr (4, [.ref (x2 0), .ref (x2 1), .ref (x2 2), .int 0, .int 0, .int 0, .int 0, .int 0])), ((x2 0), .inl (E.2 1, 200, .inl (fun _ => 0))), ((x2 1), .inl (E.2 0, 100, .inl (fun _ => 0))), ((x2 2), .inl (E.2 0, 100, .inl (fun _ => 0))), (q3, .inr (7, [.ref (x4 0), .int 0, .int 0])), ((x4 0), .inl (E.2 0, 12, .inl (fun _ => 0)))] := hD
  refine lv_aload_n hx hb dX8_init_31 rfl (lv_at hl 0 rfl) ?_
  refine lv_iload_n hx hb dX8_init_32 rfl (lv_at hl 2 rfl) ?_
  refine i_putF C hin hP hD hS 0 rfl (K := 8) (j := 1) (by decide) (by decide) rfl rfl rfl (tyK 8 (by decide) 1 (by decide)) rfl rfl (Nat.le_of_ble_eq_true rfl) q406 dX8_init_33 (fun H locs hP hD hS => ?_)
  have hP : va_P E.1 cls [(h0, .inr (8, [.int a1, .int a2, .int 0, .ref q1, .ref q3, .int 0])), (q1, .inr (4, [.ref (x2 0), .ref (x2 1), .ref (x2 2), .int 0, .int 0, .int 0, .int 0, .int 0])), ((x2 0), .inl (E.2 1, 200, .inl (fun _ => 0))), ((x2 1), .inl (E.2 0, 100, .inl (fun _ => 0))), ((x2 2), .inl (E.2 0, 100, .inl (fun _ => 0))), (q3, .inr (7, [.ref (x4 0), .int 0, .int 0])), ((x4 0), .inl (E.2 0, 12, .inl (fun _ => 0)))] H := hP
  have hD : va_D A [(h0, .inr (8, [.int a1, .int a2, .int 0, .ref q1, .ref q3, .int 0])), (q1, .inr (4, [.ref (x2 0), .ref (x2 1), .ref (x2 2), .int 0, .int 0, .int 0, .int 0, .int 0])), ((x2 0), .inl (E.2 1, 200, .inl (fun _ => 0))), ((x2 1), .inl (E.2 0, 100, .inl (fun _ => 0))), ((x2 2), .inl (E.2 0, 100, .inl (fun _ => 0))), (q3, .inr (7, [.ref (x4 0), .int 0, .int 0])), ((x4 0), .inl (E.2 0, 12, .inl (fun _ => 0)))] := hD
  refine lv_aload_n hx hb dX8_init_36 rfl (lv_at hl 0 rfl) ?_
  refine lv_iload_n hx hb dX8_init_37 rfl (lv_at hl 3 rfl) ?_
  refine i_putF C hin hP hD hS 0 rfl (K := 8) (j := 2) (by decide) (by decide) rfl rfl rfl (tyK 8 (by decide) 2 (by decide)) rfl rfl (Nat.le_of_ble_eq_true rfl) q408 dX8_init_38 (fun H locs hP hD hS => ?_)
  have hP : va_P E.1 cls [(h0, .inr (8, [.int a1, .int a2, .int a3, .ref q1, .ref q3, .int 0])), (q1, .inr (4, [.ref (x2 0), .ref (x2 1), .ref (x2 2), .int 0, .int 0, .int 0, .int 0, .int 0])), ((x2 0), .inl (E.2 1, 200, .inl (fun _ => 0))), ((x2 1), .inl (E.2 0, 100, .inl (fun _ => 0))), ((x2 2), .inl (E.2 0, 100, .inl (fun _ => 0))), (q3, .inr (7, [.ref (x4 0), .int 0, .int 0])), ((x4 0), .inl (E.2 0, 12, .inl (fun _ => 0)))] H := hP
  have hD : va_D A [(h0, .inr (8, [.int a1, .int a2, .int a3, .ref q1, .ref q3, .int 0])), (q1, .inr (4, [.ref (x2 0), .ref (x2 1), .ref (x2 2), .int 0, .int 0, .int 0, .int 0, .int 0])), ((x2 0), .inl (E.2 1, 200, .inl (fun _ => 0))), ((x2 1), .inl (E.2 0, 100, .inl (fun _ => 0))), ((x2 2), .inl (E.2 0, 100, .inl (fun _ => 0))), (q3, .inr (7, [.ref (x4 0), .int 0, .int 0])), ((x4 0), .inl (E.2 0, 12, .inl (fun _ => 0)))] := hD
  exact i_ret C hret hP hD hS (fun i => match i with | 0 => q1 | 1 => (x2 0) | 2 => (x2 1) | 3 => (x2 2) | 4 => q3 | 5 => (x4 0) | _ => 0) rfl (Nat.le_of_ble_eq_true rfl) (Nat.le_of_ble_eq_true rfl) dX8_init_41
def w1X6_init (E : EC) (h0 : Nat) (x : Nat → Nat) : va_W := [(h0, .inr (6, [.ref (x 0), .ref (x 1), .ref (x 2), .ref (x 3), .ref (x 4), .int 0, .int 0, .int 0, .int 0, .int 0])), ((x 0), .inl (E.2 0, 14, .inl (fun _ => 0))), ((x 1), .inl (E.2 0, 14, .inl (fun _ => 0))), ((x 2), .inl (E.2 0, 14, .inl (fun _ => 0))), ((x 3), .inl (E.2 0, 15, .inl (fun _ => 0))), ((x 4), .inl (E.2 0, 15, .inl (fun _ => 0)))]
abbrev rkX6_init : Room := { frames := 1, cells := 5, slots := 72, locals := 20 }
set_option maxHeartbeats 40000000 in
set_option maxRecDepth 100000 in
theorem kX6_init {l : Launch} {E : EC} (h0 sz : Nat) : Met l yX6_init (.code yX6_init cX6_init 1 none :: big) rkX6_init (va_Pc [.ref h0] (Ip E sz [(h0, .inr (6, [.null, .null, .null, .null, .null, .int 0, .int 0, .int 0, .int 0, .int 0]))])) (va_Qv (fun _ : Unit => True) (fun _ t => Iq E (w1X6_init E h0) (va_A [(h0, .inr (6, [.null, .null, .null, .null, .null, .int 0, .int 0, .int 0, .int 0, .int 0]))] sz) t) (va_A [(h0, .inr (6, [.null, .null, .null, .null, .null, .int 0, .int 0, .int 0, .int 0, .int 0]))] sz)) 5 72 (va_A [(h0, .inr (6, [.null, .null, .null, .null, .null, .int 0, .int 0, .int 0, .int 0, .int 0]))] sz) := by
  refine x_imet (by decide +kernel) (Nat.le_of_ble_eq_true rfl) rfl ?_
  intro p e s m args below meth c ls A C hret hin hA hP hD hS hl
  have hx := C.1
  have hb := C.2.1
  have hl : lv_has ls 1 [(0, .ref h0)] := hl
  refine lv_aload_n hx hb dX6_init_0 rfl (lv_at hl 0 rfl) ?_
  refine W.objInit hx hb C.2.2.2.1 (C.2.2.2.2.1 _ q202) (C.2.2.2.2.1 _ q64) (C.2.2.2.2.1 _ q65) rfl (hl.1.trans C.2.2.1.symm) rfl dX6_init_1 (Nat.le_of_ble_eq_true rfl) (Nat.le_of_ble_eq_true rfl) ?_
  refine W.eq (g2 := F0 m 4 ls []) rfl ?_
  refine lv_aload_n hx hb dX6_init_4 rfl (lv_at hl 0 rfl) ?_
  refine lv_bipush (v := 14) hx hb dX6_init_5 (by decide) ?_
  refine i_newa (atype := .int) (a0 := (14, .inl (fun _ => 0))) (N' := 14) C hP hD hS hA 0 rfl rfl q120 (fun _ => rfl) (by decide) (by decide) (Nat.le_of_ble_eq_true rfl) (Nat.le_of_ble_eq_true rfl) (Nat.le_of_ble_eq_true rfl) dX6_init_7 (fun q1 H hP hD hS => ?_)
  have hP : va_P E.1 cls [(h0, .inr (6, [.null, .null, .null, .null, .null, .int 0, .int 0, .int 0, .int 0, .int 0])), (q1, .inl (E.2 0, 14, .inl (fun _ => 0)))] H := hP
  have hD : va_D A [(h0, .inr (6, [.null, .null, .null, .null, .null, .int 0, .int 0, .int 0, .int 0, .int 0])), (q1, .inl (E.2 0, 14, .inl (fun _ => 0)))] := hD
  refine i_putF C hin hP hD hS 0 rfl (K := 6) (j := 0) (by decide) (by decide) rfl rfl rfl (tyK 6 (by decide) 0 (by decide)) rfl rfl (Nat.le_of_ble_eq_true rfl) q203 dX6_init_9 (fun H locs hP hD hS => ?_)
  have hP : va_P E.1 cls [(h0, .inr (6, [.ref q1, .null, .null, .null, .null, .int 0, .int 0, .int 0, .int 0, .int 0])), (q1, .inl (E.2 0, 14, .inl (fun _ => 0)))] H := hP
  have hD : va_D A [(h0, .inr (6, [.ref q1, .null, .null, .null, .null, .int 0, .int 0, .int 0, .int 0, .int 0])), (q1, .inl (E.2 0, 14, .inl (fun _ => 0)))] := hD
  refine lv_aload_n hx hb dX6_init_12 rfl (lv_at hl 0 rfl) ?_
  refine lv_bipush (v := 14) hx hb dX6_init_13 (by decide) ?_
  refine i_newa (atype := .int) (a0 := (14, .inl (fun _ => 0))) (N' := 14) C hP hD hS hA 0 rfl rfl q120 (fun _ => rfl) (by decide) (by decide) (Nat.le_of_ble_eq_true rfl) (Nat.le_of_ble_eq_true rfl) (Nat.le_of_ble_eq_true rfl) dX6_init_15 (fun q2 H hP hD hS => ?_)
  have hP : va_P E.1 cls [(h0, .inr (6, [.ref q1, .null, .null, .null, .null, .int 0, .int 0, .int 0, .int 0, .int 0])), (q1, .inl (E.2 0, 14, .inl (fun _ => 0))), (q2, .inl (E.2 0, 14, .inl (fun _ => 0)))] H := hP
  have hD : va_D A [(h0, .inr (6, [.ref q1, .null, .null, .null, .null, .int 0, .int 0, .int 0, .int 0, .int 0])), (q1, .inl (E.2 0, 14, .inl (fun _ => 0))), (q2, .inl (E.2 0, 14, .inl (fun _ => 0)))] := hD
  refine i_putF C hin hP hD hS 0 rfl (K := 6) (j := 1) (by decide) (by decide) rfl rfl rfl (tyK 6 (by decide) 1 (by decide)) rfl rfl (Nat.le_of_ble_eq_true rfl) q204 dX6_init_17 (fun H locs hP hD hS => ?_)
  have hP : va_P E.1 cls [(h0, .inr (6, [.ref q1, .ref q2, .null, .null, .null, .int 0, .int 0, .int 0, .int 0, .int 0])), (q1, .inl (E.2 0, 14, .inl (fun _ => 0))), (q2, .inl (E.2 0, 14, .inl (fun _ => 0)))] H := hP
  have hD : va_D A [(h0, .inr (6, [.ref q1, .ref q2, .null, .null, .null, .int 0, .int 0, .int 0, .int 0, .int 0])), (q1, .inl (E.2 0, 14, .inl (fun _ => 0))), (q2, .inl (E.2 0, 14, .inl (fun _ => 0)))] := hD
  refine lv_aload_n hx hb dX6_init_20 rfl (lv_at hl 0 rfl) ?_
  refine lv_bipush (v := 14) hx hb dX6_init_21 (by decide) ?_
  refine i_newa (atype := .int) (a0 := (14, .inl (fun _ => 0))) (N' := 14) C hP hD hS hA 0 rfl rfl q120 (fun _ => rfl) (by decide) (by decide) (Nat.le_of_ble_eq_true rfl) (Nat.le_of_ble_eq_true rfl) (Nat.le_of_ble_eq_true rfl) dX6_init_23 (fun q3 H hP hD hS => ?_)
  have hP : va_P E.1 cls [(h0, .inr (6, [.ref q1, .ref q2, .null, .null, .null, .int 0, .int 0, .int 0, .int 0, .int 0])), (q1, .inl (E.2 0, 14, .inl (fun _ => 0))), (q2, .inl (E.2 0, 14, .inl (fun _ => 0))), (q3, .inl (E.2 0, 14, .inl (fun _ => 0)))] H := hP
  have hD : va_D A [(h0, .inr (6, [.ref q1, .ref q2, .null, .null, .null, .int 0, .int 0, .int 0, .int 0, .int 0])), (q1, .inl (E.2 0, 14, .inl (fun _ => 0))), (q2, .inl (E.2 0, 14, .inl (fun _ => 0))), (q3, .inl (E.2 0, 14, .inl (fun _ => 0)))] := hD
  refine i_putF C hin hP hD hS 0 rfl (K := 6) (j := 2) (by decide) (by decide) rfl rfl rfl (tyK 6 (by decide) 2 (by decide)) rfl rfl (Nat.le_of_ble_eq_true rfl) q205 dX6_init_25 (fun H locs hP hD hS => ?_)
  have hP : va_P E.1 cls [(h0, .inr (6, [.ref q1, .ref q2, .ref q3, .null, .null, .int 0, .int 0, .int 0, .int 0, .int 0])), (q1, .inl (E.2 0, 14, .inl (fun _ => 0))), (q2, .inl (E.2 0, 14, .inl (fun _ => 0))), (q3, .inl (E.2 0, 14, .inl (fun _ => 0)))] H := hP
  have hD : va_D A [(h0, .inr (6, [.ref q1, .ref q2, .ref q3, .null, .null, .int 0, .int 0, .int 0, .int 0, .int 0])), (q1, .inl (E.2 0, 14, .inl (fun _ => 0))), (q2, .inl (E.2 0, 14, .inl (fun _ => 0))), (q3, .inl (E.2 0, 14, .inl (fun _ => 0)))] := hD
  refine lv_aload_n hx hb dX6_init_28 rfl (lv_at hl 0 rfl) ?_
  refine lv_bipush (v := 15) hx hb dX6_init_29 (by decide) ?_
  refine i_newa (atype := .int) (a0 := (15, .inl (fun _ => 0))) (N' := 15) C hP hD hS hA 0 rfl rfl q120 (fun _ => rfl) (by decide) (by decide) (Nat.le_of_ble_eq_true rfl) (Nat.le_of_ble_eq_true rfl) (Nat.le_of_ble_eq_true rfl) dX6_init_31 (fun q4 H hP hD hS => ?_)
  have hP : va_P E.1 cls [(h0, .inr (6, [.ref q1, .ref q2, .ref q3, .null, .null, .int 0, .int 0, .int 0, .int 0, .int 0])), (q1, .inl (E.2 0, 14, .inl (fun _ => 0))), (q2, .inl (E.2 0, 14, .inl (fun _ => 0))), (q3, .inl (E.2 0, 14, .inl (fun _ => 0))), (q4, .inl (E.2 0, 15, .inl (fun _ => 0)))] H := hP
  have hD : va_D A [(h0, .inr (6, [.ref q1, .ref q2, .ref q3, .null, .null, .int 0, .int 0, .int 0, .int 0, .int 0])), (q1, .inl (E.2 0, 14, .inl (fun _ => 0))), (q2, .inl (E.2 0, 14, .inl (fun _ => 0))), (q3, .inl (E.2 0, 14, .inl (fun _ => 0))), (q4, .inl (E.2 0, 15, .inl (fun _ => 0)))] := hD
  refine i_putF C hin hP hD hS 0 rfl (K := 6) (j := 3) (by decide) (by decide) rfl rfl rfl (tyK 6 (by decide) 3 (by decide)) rfl rfl (Nat.le_of_ble_eq_true rfl) q206 dX6_init_33 (fun H locs hP hD hS => ?_)
  have hP : va_P E.1 cls [(h0, .inr (6, [.ref q1, .ref q2, .ref q3, .ref q4, .null, .int 0, .int 0, .int 0, .int 0, .int 0])), (q1, .inl (E.2 0, 14, .inl (fun _ => 0))), (q2, .inl (E.2 0, 14, .inl (fun _ => 0))), (q3, .inl (E.2 0, 14, .inl (fun _ => 0))), (q4, .inl (E.2 0, 15, .inl (fun _ => 0)))] H := hP
  have hD : va_D A [(h0, .inr (6, [.ref q1, .ref q2, .ref q3, .ref q4, .null, .int 0, .int 0, .int 0, .int 0, .int 0])), (q1, .inl (E.2 0, 14, .inl (fun _ => 0))), (q2, .inl (E.2 0, 14, .inl (fun _ => 0))), (q3, .inl (E.2 0, 14, .inl (fun _ => 0))), (q4, .inl (E.2 0, 15, .inl (fun _ => 0)))] := hD
  refine lv_aload_n hx hb dX6_init_36 rfl (lv_at hl 0 rfl) ?_
  refine lv_bipush (v := 15) hx hb dX6_init_37 (by decide) ?_
  refine i_newa (atype := .int) (a0 := (15, .inl (fun _ => 0))) (N' := 15) C hP hD hS hA 0 rfl rfl q120 (fun _ => rfl) (by decide) (by decide) (Nat.le_of_ble_eq_true rfl) (Nat.le_of_ble_eq_true rfl) (Nat.le_of_ble_eq_true rfl) dX6_init_39 (fun q5 H hP hD hS => ?_)
  have hP : va_P E.1 cls [(h0, .inr (6, [.ref q1, .ref q2, .ref q3, .ref q4, .null, .int 0, .int 0, .int 0, .int 0, .int 0])), (q1, .inl (E.2 0, 14, .inl (fun _ => 0))), (q2, .inl (E.2 0, 14, .inl (fun _ => 0))), (q3, .inl (E.2 0, 14, .inl (fun _ => 0))), (q4, .inl (E.2 0, 15, .inl (fun _ => 0))), (q5, .inl (E.2 0, 15, .inl (fun _ => 0)))] H := hP
  have hD : va_D A [(h0, .inr (6, [.ref q1, .ref q2, .ref q3, .ref q4, .null, .int 0, .int 0, .int 0, .int 0, .int 0])), (q1, .inl (E.2 0, 14, .inl (fun _ => 0))), (q2, .inl (E.2 0, 14, .inl (fun _ => 0))), (q3, .inl (E.2 0, 14, .inl (fun _ => 0))), (q4, .inl (E.2 0, 15, .inl (fun _ => 0))), (q5, .inl (E.2 0, 15, .inl (fun _ => 0)))] := hD
  refine i_putF C hin hP hD hS 0 rfl (K := 6) (j := 4) (by decide) (by decide) rfl rfl rfl (tyK 6 (by decide) 4 (by decide)) rfl rfl (Nat.le_of_ble_eq_true rfl) q207 dX6_init_41 (fun H locs hP hD hS => ?_)
  have hP : va_P E.1 cls [(h0, .inr (6, [.ref q1, .ref q2, .ref q3, .ref q4, .ref q5, .int 0, .int 0, .int 0, .int 0, .int 0])), (q1, .inl (E.2 0, 14, .inl (fun _ => 0))), (q2, .inl (E.2 0, 14, .inl (fun _ => 0))), (q3, .inl (E.2 0, 14, .inl (fun _ => 0))), (q4, .inl (E.2 0, 15, .inl (fun _ => 0))), (q5, .inl (E.2 0, 15, .inl (fun _ => 0)))] H := hP
  have hD : va_D A [(h0, .inr (6, [.ref q1, .ref q2, .ref q3, .ref q4, .ref q5, .int 0, .int 0, .int 0, .int 0, .int 0])), (q1, .inl (E.2 0, 14, .inl (fun _ => 0))), (q2, .inl (E.2 0, 14, .inl (fun _ => 0))), (q3, .inl (E.2 0, 14, .inl (fun _ => 0))), (q4, .inl (E.2 0, 15, .inl (fun _ => 0))), (q5, .inl (E.2 0, 15, .inl (fun _ => 0)))] := hD
  exact i_ret C hret hP hD hS (fun i => match i with | 0 => q1 | 1 => q2 | 2 => q3 | 3 => q4 | 4 => q5 | _ => 0) rfl (Nat.le_of_ble_eq_true rfl) (Nat.le_of_ble_eq_true rfl) dX6_init_44
