-- X11_rate
abbrev rmX11_rate : Room := { frames := 4, cells := 0, slots := 0, locals := 99 }
def fX11_rate (N : Nat) (σ : St) (a1 : Int32) (a2 : Int32) (Q : Int32 → St → Prop) : Prop := fX11_isFeature N σ a1 (fun (r2 : Int32) (σ1 : St) => ((¬ r2 = 0 → fX11_askedFor N σ1 a2 (fun (r5 : Int32) (σ4 : St) => ((0 ≤ r5 → fX11_setCounts N σ4 (fun (σ7 : St) => fX11_rateIn N σ7 a1 ((1 : Int32) <<< (a2 &&& 31)) (fun (r9 : Int32) (σ8 : St) => Q r9 σ8))) ∧ (¬ 0 ≤ r5 → Q r5 σ4)))) ∧ (r2 = 0 → Q (-1 : Int32) σ1)))
set_option maxHeartbeats 4000000 in
set_option maxRecDepth 100000 in
theorem eX11_rate {l : Launch} {E : EC} {lay : Nat → Nat → Nat} {L : List (Nat × Nat)} {A : Nat → Prop} {N : Nat} {σ : St} {a1 : Int32} {a2 : Int32} {Q : Int32 → St → Prop} (hf : fX11_rate N σ a1 a2 Q) (hm0 : (11, 0) ∈ L) : Met l yX11_rate (.code yX11_rate cX11_rate 4 (some .int) :: big) rmX11_rate (va_Pc [.ref (lay 11 0), .int a1, .int a2] (Bp E lay L A σ)) (va_Qi Q (Bd E lay L A) A) 0 0 A := by
  refine x_met (by decide +kernel) (Nat.le_of_ble_eq_true rfl) ?_
  intro p e s m args below meth c ls C hret hw hl
  have hx := C.1
  have hb := C.2.1
  have hl : lv_has ls 4 [(0, .ref (lay 11 0)), (1, .int a1), (2, .int a2)] := hl
  unfold fX11_rate at hf
  refine lv_aload_n hx hb dX11_rate_0 rfl (lv_at hl 0 rfl) ?_
  refine lv_iload_n hx hb dX11_rate_1 rfl (lv_at hl 1 rfl) ?_
  refine x_runi hw (x_V (n := 1) (rest := []) C hw hm0 (by decide) (eX11_isFeature hf hm0) q1055 q1057 q27 q53 q1058 rfl rfl (by decide +kernel) ⟨Nat.le_of_ble_eq_true rfl, Nat.le_of_ble_eq_true rfl⟩ rfl hl.1 rfl (Nat.le_of_ble_eq_true rfl) dX11_rate_2) (fun r2 σ1 H locs hf hw => ?_)
  have hzr2 := hf.2
  replace hf := hf.1
  try dsimp only at hf
  refine lv_if_ne (tgt := 10) hx hb dX11_rate_5 (by decide) (fun c3 => ?_) (fun c3 => ?_)
  · replace hf := hf.1 c3
    refine lv_aload_n hx hb dX11_rate_10 rfl (lv_at hl 0 rfl) ?_
    refine lv_iload_n hx hb dX11_rate_11 rfl (lv_at hl 2 rfl) ?_
    refine x_runi hw (x_V (n := 1) (rest := []) C hw hm0 (by decide) (eX11_askedFor hf hm0) q1059 q1061 q28 q53 q1062 rfl rfl (by decide +kernel) ⟨Nat.le_of_ble_eq_true rfl, Nat.le_of_ble_eq_true rfl⟩ rfl hl.1 rfl (Nat.le_of_ble_eq_true rfl) dX11_rate_12) (fun r5 σ4 H locs hf hw => ?_)
    try dsimp only at hf
    refine lv_istore_n (lv' := [(3, .int r5), (0, .ref (lay 11 0)), (1, .int a1), (2, .int a2)]) hx hb dX11_rate_15 rfl hl (by decide) rfl (fun ls hl => ?_)
    refine lv_iload_n hx hb dX11_rate_16 rfl (lv_at hl 0 rfl) ?_
    refine lv_if_ge (tgt := 22) hx hb dX11_rate_17 (by decide) (fun c6 => ?_) (fun c6 => ?_)
    · replace hf := hf.1 c6
      refine lv_aload_n hx hb dX11_rate_22 rfl (lv_at hl 1 rfl) ?_
      refine x_runv hw (x_V (n := 0) (rest := []) C hw hm0 (by decide) (eX11_setCounts hf hm0) q1079 q1081 q32 q53 q1082 rfl rfl (by decide +kernel) ⟨Nat.le_of_ble_eq_true rfl, Nat.le_of_ble_eq_true rfl⟩ rfl hl.1 rfl (Nat.le_of_ble_eq_true rfl) dX11_rate_23) (fun σ7 H locs hf hw => ?_)
      try dsimp only at hf
      refine lv_aload_n hx hb dX11_rate_26 rfl (lv_at hl 1 rfl) ?_
      refine lv_iload_n hx hb dX11_rate_27 rfl (lv_at hl 2 rfl) ?_
      refine lv_iconst (v := 1) hx hb dX11_rate_28 (by decide) ?_
      refine lv_iload_n hx hb dX11_rate_29 rfl (lv_at hl 3 rfl) ?_
      refine lv_ishl hx hb dX11_rate_30 ?_
      refine x_runi hw (x_V (n := 2) (rest := []) C hw hm0 (by decide) (eX11_rateIn hf hm0) q1083 q1085 q33 q53 q1086 rfl rfl (by decide +kernel) ⟨Nat.le_of_ble_eq_true rfl, Nat.le_of_ble_eq_true rfl⟩ rfl hl.1 rfl (Nat.le_of_ble_eq_true rfl) dX11_rate_31) (fun r9 σ8 H locs hf hw => ?_)
      try dsimp only at hf
      exact x_iret C hret hw hf dX11_rate_34
    · replace hf := hf.2 c6
      refine lv_iload_n hx hb dX11_rate_20 rfl (lv_at hl 0 rfl) ?_
      exact x_iret C hret hw hf dX11_rate_21
  · replace hf := hf.2 c3
    refine lv_iconst (v := (-1)) hx hb dX11_rate_8 (by decide) ?_
    exact x_iret C hret hw hf dX11_rate_9
-- X11_handOf
abbrev rmX11_handOf : Room := { frames := 0, cells := 0, slots := 0, locals := 0 }
def fX11_handOf_b50_5 (N : Nat) (a1 : Int32) (a2 : Int32) (Q : Int32 → St → Prop) (Kh : St → Int32 → Int32 → Prop) (Kx58 : St → Int32 → Prop) (σ : St) (v4 : Int32) (t0 : Int32) (t1 : Int32) : Prop := Kh σ (t1 ||| t0) (v4 + (1 : Int32))
def fX11_handOf_b49_5 (N : Nat) (a1 : Int32) (a2 : Int32) (Q : Int32 → St → Prop) (Kh : St → Int32 → Int32 → Prop) (Kx58 : St → Int32 → Prop) (σ : St) (v4 : Int32) (t0 : Int32) : Prop := fX11_handOf_b50_5 N a1 a2 Q Kh Kx58 σ v4 (0 : Int32) t0
def fX11_handOf_l5 (N : Nat) (a1 : Int32) (a2 : Int32) (Q : Int32 → St → Prop) (Kx58 : St → Int32 → Prop) : Nat → St → Int32 → Int32 → Prop
  | 0, _, _, _ => False
  | n + 1, σ, v3, v4 => (((sF σ 11 0 6) ≤ v4 → Kx58 σ v3) ∧ (¬ (sF σ 11 0 6) ≤ v4 → (vp_in v4 15 ∧ ((¬ (sA σ 70 0 (v4).toNatClampNeg) = 0 → fX11_handOf_b49_5 N a1 a2 Q (fun (σ : St) (w3 : Int32) (w4 : Int32) => fX11_handOf_l5 N a1 a2 Q Kx58 n σ w3 w4) Kx58 σ v4 v3) ∧ ((sA σ 70 0 (v4).toNatClampNeg) = 0 → (vp_in v4 15 ∧ ((¬ (sA σ 68 0 (v4).toNatClampNeg) = a1 → fX11_handOf_b49_5 N a1 a2 Q (fun (σ : St) (w3 : Int32) (w4 : Int32) => fX11_handOf_l5 N a1 a2 Q Kx58 n σ w3 w4) Kx58 σ v4 v3) ∧ ((sA σ 68 0 (v4).toNatClampNeg) = a1 → ((v4 = a2 → fX11_handOf_b49_5 N a1 a2 Q (fun (σ : St) (w3 : Int32) (w4 : Int32) => fX11_handOf_l5 N a1 a2 Q Kx58 n σ w3 w4) Kx58 σ v4 v3) ∧ (¬ v4 = a2 → fX11_handOf_b50_5 N a1 a2 Q (fun (σ : St) (w3 : Int32) (w4 : Int32) => fX11_handOf_l5 N a1 a2 Q Kx58 n σ w3 w4) Kx58 σ v4 ((1 : Int32) <<< (v4 &&& 31)) v3))))))))))
set_option maxHeartbeats 4000000 in
set_option maxRecDepth 100000 in
theorem eX11_handOf_b50_5 {p : Program} {l : Launch} {e : Env} {s : State} {m : MethodId} {args : Array Value} {below : List Frame} {meth : Method} {c : Code} {E : EC} {lay : Nat → Nat → Nat} {L : List (Nat × Nat)} {A : Nat → Prop} (C : Cx p s m args c meth yX11_handOf.cls cX11_handOf 5 E A) (hret : meth.sig.returnType = some .int) {N : Nat} {a1 : Int32} {a2 : Int32} {Q : Int32 → St → Prop} {Kh : St → Int32 → Int32 → Prop} {Kx58 : St → Int32 → Prop} (hm0 : (11, 0) ∈ L) (hKh : ∀ (σ : St) (w3 : Int32) (w4 : Int32) (H : Heap) (locs : List Loc) (ls : Array Slot), Kh σ w3 w4 → Wo E lay L A s σ H locs → lv_has ls 5 [(0, .ref (lay 11 0)), (1, .int a1), (2, .int a2), (3, .int w3), (4, .int w4)] → W p l e rmX11_handOf s m args below meth c H locs 0 0 (MQ below (va_Qi Q (Bd E lay L A) A) args s 0 0 A) (F0 m 5 ls [])) (hK58 : ∀ (σ : St) (w3 : Int32) (H : Heap) (locs : List Loc) (ls : Array Slot), Kx58 σ w3 → Wo E lay L A s σ H locs → lv_has ls 5 [(3, .int w3)] → W p l e rmX11_handOf s m args below meth c H locs 0 0 (MQ below (va_Qi Q (Bd E lay L A) A) args s 0 0 A) (F0 m 58 ls [])) (σ : St) (v4 : Int32) (t0 : Int32) (t1 : Int32) (H : Heap) (locs : List Loc) (ls : Array Slot) (hf : fX11_handOf_b50_5 N a1 a2 Q Kh Kx58 σ v4 t0 t1) (hw : Wo E lay L A s σ H locs) (hl : lv_has ls 5 [(0, .ref (lay 11 0)), (1, .int a1), (2, .int a2), (4, .int v4)]) : W p l e rmX11_handOf s m args below meth c H locs 0 0 (MQ below (va_Qi Q (Bd E lay L A) A) args s 0 0 A) (F0 m 50 ls [.int t0, .int t1]) := by
  have hx := C.1
  have hb := C.2.1
  unfold fX11_handOf_b50_5 at hf
  refine lv_ior hx hb dX11_handOf_50 ?_
  refine lv_istore_n (lv' := [(3, .int (t1 ||| t0)), (0, .ref (lay 11 0)), (1, .int a1), (2, .int a2), (4, .int v4)]) hx hb dX11_handOf_51 rfl hl (by decide) rfl (fun ls hl => ?_)
  refine lv_iinc (v := (v4 + (1 : Int32))) (lv' := [(4, .int (v4 + (1 : Int32))), (3, .int (t1 ||| t0)), (0, .ref (lay 11 0)), (1, .int a1), (2, .int a2)]) hx hb dX11_handOf_52 hl (k := 4) rfl (by rfl) (by decide) rfl (fun ls hl => ?_)
  refine lv_goto (tgt := 5) hx hb dX11_handOf_55 (by decide) ?_
  exact hKh σ (t1 ||| t0) (v4 + (1 : Int32)) _ _ _ hf hw (lv_sub hl [2, 3, 4, 1, 0] rfl)
set_option maxHeartbeats 4000000 in
set_option maxRecDepth 100000 in
theorem eX11_handOf_b49_5 {p : Program} {l : Launch} {e : Env} {s : State} {m : MethodId} {args : Array Value} {below : List Frame} {meth : Method} {c : Code} {E : EC} {lay : Nat → Nat → Nat} {L : List (Nat × Nat)} {A : Nat → Prop} (C : Cx p s m args c meth yX11_handOf.cls cX11_handOf 5 E A) (hret : meth.sig.returnType = some .int) {N : Nat} {a1 : Int32} {a2 : Int32} {Q : Int32 → St → Prop} {Kh : St → Int32 → Int32 → Prop} {Kx58 : St → Int32 → Prop} (hm0 : (11, 0) ∈ L) (hKh : ∀ (σ : St) (w3 : Int32) (w4 : Int32) (H : Heap) (locs : List Loc) (ls : Array Slot), Kh σ w3 w4 → Wo E lay L A s σ H locs → lv_has ls 5 [(0, .ref (lay 11 0)), (1, .int a1), (2, .int a2), (3, .int w3), (4, .int w4)] → W p l e rmX11_handOf s m args below meth c H locs 0 0 (MQ below (va_Qi Q (Bd E lay L A) A) args s 0 0 A) (F0 m 5 ls [])) (hK58 : ∀ (σ : St) (w3 : Int32) (H : Heap) (locs : List Loc) (ls : Array Slot), Kx58 σ w3 → Wo E lay L A s σ H locs → lv_has ls 5 [(3, .int w3)] → W p l e rmX11_handOf s m args below meth c H locs 0 0 (MQ below (va_Qi Q (Bd E lay L A) A) args s 0 0 A) (F0 m 58 ls [])) (σ : St) (v4 : Int32) (t0 : Int32) (H : Heap) (locs : List Loc) (ls : Array Slot) (hf : fX11_handOf_b49_5 N a1 a2 Q Kh Kx58 σ v4 t0) (hw : Wo E lay L A s σ H locs) (hl : lv_has ls 5 [(0, .ref (lay 11 0)), (1, .int a1), (2, .int a2), (4, .int v4)]) : W p l e rmX11_handOf s m args below meth c H locs 0 0 (MQ below (va_Qi Q (Bd E lay L A) A) args s 0 0 A) (F0 m 49 ls [.int t0]) := by
  have hx := C.1
  have hb := C.2.1
  unfold fX11_handOf_b49_5 at hf
  refine lv_iconst (v := 0) hx hb dX11_handOf_49 (by decide) ?_
  exact eX11_handOf_b50_5 C hret hm0 hKh hK58 σ v4 (0 : Int32) t0 _ _ _ hf hw (lv_sub hl [0, 1, 2, 3] rfl)
set_option maxHeartbeats 4000000 in
set_option maxRecDepth 100000 in
theorem eX11_handOf_l5 {p : Program} {l : Launch} {e : Env} {s : State} {m : MethodId} {args : Array Value} {below : List Frame} {meth : Method} {c : Code} {E : EC} {lay : Nat → Nat → Nat} {L : List (Nat × Nat)} {A : Nat → Prop} (C : Cx p s m args c meth yX11_handOf.cls cX11_handOf 5 E A) (hret : meth.sig.returnType = some .int) {N : Nat} {a1 : Int32} {a2 : Int32} {Q : Int32 → St → Prop} {Kx58 : St → Int32 → Prop} (hm0 : (11, 0) ∈ L) (hK58 : ∀ (σ : St) (w3 : Int32) (H : Heap) (locs : List Loc) (ls : Array Slot), Kx58 σ w3 → Wo E lay L A s σ H locs → lv_has ls 5 [(3, .int w3)] → W p l e rmX11_handOf s m args below meth c H locs 0 0 (MQ below (va_Qi Q (Bd E lay L A) A) args s 0 0 A) (F0 m 58 ls [])) : ∀ (n : Nat) (σ : St) (v3 : Int32) (v4 : Int32) (H : Heap) (locs : List Loc) (ls : Array Slot), fX11_handOf_l5 N a1 a2 Q Kx58 n σ v3 v4 → Wo E lay L A s σ H locs → lv_has ls 5 [(0, .ref (lay 11 0)), (1, .int a1), (2, .int a2), (3, .int v3), (4, .int v4)] → W p l e rmX11_handOf s m args below meth c H locs 0 0 (MQ below (va_Qi Q (Bd E lay L A) A) args s 0 0 A) (F0 m 5 ls []) := by
  have hx := C.1
  have hb := C.2.1
  intro n
  induction n with
  | zero => intro σ v3 v4 H locs ls hf; exact hf.elim
  | succ n ih =>
    intro σ v3 v4 H locs ls hf hw hl
    rw [fX11_handOf_l5] at hf
    refine lv_iload hx hb dX11_handOf_5 (lv_at hl 4 rfl) ?_
    refine lv_aload_n hx hb dX11_handOf_7 rfl (lv_at hl 0 rfl) ?_
    refine x_get (v := .int (sF σ 11 0 6)) (j := 6) C hw hm0 rfl (by decide) (by decide) rfl q886 dX11_handOf_8 ?_
    refine lv_icmp_ge (tgt := 58) hx hb dX11_handOf_11 (by decide) (fun c1 => ?_) (fun c1 => ?_)
    · replace hf := hf.1 c1
      exact hK58 σ v3 _ _ _ hf hw (lv_sub hl [3] rfl)
    · replace hf := hf.2 c1
      refine lv_iload_n hx hb dX11_handOf_14 rfl (lv_at hl 3 rfl) ?_
      refine lv_aload_n hx hb dX11_handOf_15 rfl (lv_at hl 0 rfl) ?_
      have hm_2 : (70, 0) ∈ L := hw.2.2.2.1 11 0 hm0 10 (by decide) (by decide) rfl
      refine x_get (v := .ref (lay 70 0)) (j := 10) C hw hm0 rfl (by decide) (by decide) rfl q890 dX11_handOf_16 ?_
      refine lv_iload hx hb dX11_handOf_19 (lv_at hl 4 rfl) ?_
      refine x_zald C hw hm_2 (by decide) rfl hf.1 dX11_handOf_21 ?_
      replace hf := hf.2
      refine lv_if_ne (tgt := 49) hx hb dX11_handOf_22 (by decide) (fun c3 => ?_) (fun c3 => ?_)
      · replace hf := hf.1 c3
        exact eX11_handOf_b49_5 C hret hm0 ih hK58 σ v4 v3 _ _ _ hf hw (lv_sub hl [0, 1, 2, 4] rfl)
      · replace hf := hf.2 c3
        refine lv_aload_n hx hb dX11_handOf_25 rfl (lv_at hl 0 rfl) ?_
        have hm_4 : (68, 0) ∈ L := hw.2.2.2.1 11 0 hm0 8 (by decide) (by decide) rfl
        refine x_get (v := .ref (lay 68 0)) (j := 8) C hw hm0 rfl (by decide) (by decide) rfl q888 dX11_handOf_26 ?_
        refine lv_iload hx hb dX11_handOf_29 (lv_at hl 4 rfl) ?_
        refine x_iald C hw hm_4 (by decide) rfl hf.1 dX11_handOf_31 ?_
        replace hf := hf.2
        refine lv_iload_n hx hb dX11_handOf_32 rfl (lv_at hl 1 rfl) ?_
        refine lv_icmp_ne (tgt := 49) hx hb dX11_handOf_33 (by decide) (fun c5 => ?_) (fun c5 => ?_)
        · replace hf := hf.1 c5
          exact eX11_handOf_b49_5 C hret hm0 ih hK58 σ v4 v3 _ _ _ hf hw (lv_sub hl [0, 1, 2, 4] rfl)
        · replace hf := hf.2 c5
          refine lv_iload hx hb dX11_handOf_36 (lv_at hl 4 rfl) ?_
          refine lv_iload_n hx hb dX11_handOf_38 rfl (lv_at hl 2 rfl) ?_
          refine lv_icmp_eq (tgt := 49) hx hb dX11_handOf_39 (by decide) (fun c6 => ?_) (fun c6 => ?_)
          · replace hf := hf.1 c6
            exact eX11_handOf_b49_5 C hret hm0 ih hK58 σ v4 v3 _ _ _ hf hw (lv_sub hl [0, 1, 2, 4] rfl)
          · replace hf := hf.2 c6
            refine lv_iconst (v := 1) hx hb dX11_handOf_42 (by decide) ?_
            refine lv_iload hx hb dX11_handOf_43 (lv_at hl 4 rfl) ?_
            refine lv_ishl hx hb dX11_handOf_45 ?_
            refine lv_goto (tgt := 50) hx hb dX11_handOf_46 (by decide) ?_
            exact eX11_handOf_b50_5 C hret hm0 ih hK58 σ v4 ((1 : Int32) <<< (v4 &&& 31)) v3 _ _ _ hf hw (lv_sub hl [0, 1, 2, 4] rfl)
def fX11_handOf (N : Nat) (σ : St) (a1 : Int32) (a2 : Int32) (Q : Int32 → St → Prop) : Prop := fX11_handOf_l5 N a1 a2 Q (fun (σ7 : St) (u58_3 : Int32) => Q u58_3 σ7) N σ (0 : Int32) (0 : Int32)
set_option maxHeartbeats 4000000 in
set_option maxRecDepth 100000 in
theorem eX11_handOf {l : Launch} {E : EC} {lay : Nat → Nat → Nat} {L : List (Nat × Nat)} {A : Nat → Prop} {N : Nat} {σ : St} {a1 : Int32} {a2 : Int32} {Q : Int32 → St → Prop} (hf : fX11_handOf N σ a1 a2 Q) (hm0 : (11, 0) ∈ L) : Met l yX11_handOf (.code yX11_handOf cX11_handOf 5 (some .int) :: big) rmX11_handOf (va_Pc [.ref (lay 11 0), .int a1, .int a2] (Bp E lay L A σ)) (va_Qi Q (Bd E lay L A) A) 0 0 A := by
  refine x_met (by decide +kernel) (Nat.le_of_ble_eq_true rfl) ?_
  intro p e s m args below meth c ls C hret hw hl
  have hx := C.1
  have hb := C.2.1
  have hl : lv_has ls 5 [(0, .ref (lay 11 0)), (1, .int a1), (2, .int a2)] := hl
  unfold fX11_handOf at hf
  refine lv_iconst (v := 0) hx hb dX11_handOf_0 (by decide) ?_
  refine lv_istore_n (lv' := [(3, .int (0 : Int32)), (0, .ref (lay 11 0)), (1, .int a1), (2, .int a2)]) hx hb dX11_handOf_1 rfl hl (by decide) rfl (fun ls hl => ?_)
  refine lv_iconst (v := 0) hx hb dX11_handOf_2 (by decide) ?_
  refine lv_istore (lv' := [(4, .int (0 : Int32)), (3, .int (0 : Int32)), (0, .ref (lay 11 0)), (1, .int a1), (2, .int a2)]) hx hb dX11_handOf_3 hl (by decide) rfl (fun ls hl => ?_)
  refine eX11_handOf_l5 C hret hm0 ?_ N σ (0 : Int32) (0 : Int32) _ _ _ hf hw (lv_sub hl [2, 3, 4, 1, 0] rfl)
  · intro σ7 u58_3 H locs ls hf hw hl
    refine lv_iload_n hx hb dX11_handOf_58 rfl (lv_at hl 0 rfl) ?_
    exact x_iret C hret hw hf dX11_handOf_59
-- X11_isWriter
abbrev rmX11_isWriter : Room := { frames := 1, cells := 0, slots := 0, locals := 22 }
def fX11_isWriter (N : Nat) (σ : St) (a0 : Int32) (Q : Int32 → St → Prop) : Prop := fX11_in N σ a0 (0 : Int32) (5 : Int32) (fun (r2 : Int32) (σ1 : St) => Q r2 σ1)
set_option maxHeartbeats 4000000 in
set_option maxRecDepth 100000 in
theorem eX11_isWriter {l : Launch} {E : EC} {lay : Nat → Nat → Nat} {L : List (Nat × Nat)} {A : Nat → Prop} {N : Nat} {σ : St} {a0 : Int32} {Q : Int32 → St → Prop} (hf : fX11_isWriter N σ a0 Q) : Met l yX11_isWriter (.code yX11_isWriter cX11_isWriter 1 (some .boolean) :: big) rmX11_isWriter (va_Pc [.int a0] (Bp E lay L A σ)) (va_Qi (fun r u => Q r u ∧ narrow .boolean (.int r) = .int r) (Bd E lay L A) A) 0 0 A := by
  refine x_met (by decide +kernel) (Nat.le_of_ble_eq_true rfl) ?_
  intro p e s m args below meth c ls C hret hw hl
  have hx := C.1
  have hb := C.2.1
  have hl : lv_has ls 1 [(0, .int a0)] := hl
  unfold fX11_isWriter at hf
  refine lv_iload_n hx hb dX11_isWriter_0 rfl (lv_at hl 0 rfl) ?_
  refine lv_iconst (v := 0) hx hb dX11_isWriter_1 (by decide) ?_
  refine lv_iconst (v := 5) hx hb dX11_isWriter_2 (by decide) ?_
  refine x_runi hw (x_S (n := 3) (rest := []) C hw (eX11_in hf) q984 q985 q53 q986 rfl rfl (by decide +kernel) ⟨Nat.le_of_ble_eq_true rfl, Nat.le_of_ble_eq_true rfl⟩ rfl hl.1 rfl (Nat.le_of_ble_eq_true rfl) dX11_isWriter_3) (fun r2 σ1 H locs hf hw => ?_)
  have hzr2 := hf.2
  replace hf := hf.1
  try dsimp only at hf
  exact x_zret C hret hzr2 hw ⟨hf, hzr2⟩ dX11_isWriter_6
-- X11_hand
abbrev rmX11_hand : Room := { frames := 4, cells := 0, slots := 0, locals := 99 }
def fX11_hand (N : Nat) (σ : St) (a1 : Int32) (a2 : Int32) (Q : Int32 → St → Prop) : Prop := fX11_isFeature N σ a1 (fun (r2 : Int32) (σ1 : St) => ((r2 = 0 → Q (-1 : Int32) σ1) ∧ (¬ r2 = 0 → fX11_isWriter N σ1 a2 (fun (r5 : Int32) (σ4 : St) => ((¬ r5 = 0 → fX11_handOf N σ4 a2 (-9 : Int32) (fun (r8 : Int32) (σ7 : St) => ((¬ r8 = 0 → fX11_setCounts N σ7 (fun (σ10 : St) => fX11_rateIn N σ10 a1 r8 (fun (r12 : Int32) (σ11 : St) => Q r12 σ11))) ∧ (r8 = 0 → fX11_meets N σ7 (4 : Int32) (fun (r14 : Int32) (σ13 : St) => Q r14 σ13))))) ∧ (r5 = 0 → Q (-1 : Int32) σ4))))))
set_option maxHeartbeats 4000000 in
set_option maxRecDepth 100000 in
theorem eX11_hand {l : Launch} {E : EC} {lay : Nat → Nat → Nat} {L : List (Nat × Nat)} {A : Nat → Prop} {N : Nat} {σ : St} {a1 : Int32} {a2 : Int32} {Q : Int32 → St → Prop} (hf : fX11_hand N σ a1 a2 Q) (hm0 : (11, 0) ∈ L) : Met l yX11_hand (.code yX11_hand cX11_hand 4 (some .int) :: big) rmX11_hand (va_Pc [.ref (lay 11 0), .int a1, .int a2] (Bp E lay L A σ)) (va_Qi Q (Bd E lay L A) A) 0 0 A := by
  refine x_met (by decide +kernel) (Nat.le_of_ble_eq_true rfl) ?_
  intro p e s m args below meth c ls C hret hw hl
  have hx := C.1
  have hb := C.2.1
  have hl : lv_has ls 4 [(0, .ref (lay 11 0)), (1, .int a1), (2, .int a2)] := hl
  unfold fX11_hand at hf
  refine lv_aload_n hx hb dX11_hand_0 rfl (lv_at hl 0 rfl) ?_
  refine lv_iload_n hx hb dX11_hand_1 rfl (lv_at hl 1 rfl) ?_
  refine x_runi hw (x_V (n := 1) (rest := []) C hw hm0 (by decide) (eX11_isFeature hf hm0) q1055 q1057 q27 q53 q1058 rfl rfl (by decide +kernel) ⟨Nat.le_of_ble_eq_true rfl, Nat.le_of_ble_eq_true rfl⟩ rfl hl.1 rfl (Nat.le_of_ble_eq_true rfl) dX11_hand_2) (fun r2 σ1 H locs hf hw => ?_)
  have hzr2 := hf.2
  replace hf := hf.1
  try dsimp only at hf
  refine lv_if_eq (tgt := 15) hx hb dX11_hand_5 (by decide) (fun c3 => ?_) (fun c3 => ?_)
  · replace hf := hf.1 c3
    refine lv_iconst (v := (-1)) hx hb dX11_hand_15 (by decide) ?_
    exact x_iret C hret hw hf dX11_hand_16
  · replace hf := hf.2 c3
    refine lv_iload_n hx hb dX11_hand_8 rfl (lv_at hl 2 rfl) ?_
    refine x_runi hw (x_S (n := 1) (rest := []) C hw (eX11_isWriter hf) q1094 q1095 q53 q1096 rfl rfl (by decide +kernel) ⟨Nat.le_of_ble_eq_true rfl, Nat.le_of_ble_eq_true rfl⟩ rfl hl.1 rfl (Nat.le_of_ble_eq_true rfl) dX11_hand_9) (fun r5 σ4 H locs hf hw => ?_)
    have hzr5 := hf.2
    replace hf := hf.1
    try dsimp only at hf
    refine lv_if_ne (tgt := 17) hx hb dX11_hand_12 (by decide) (fun c6 => ?_) (fun c6 => ?_)
    · replace hf := hf.1 c6
      refine lv_aload_n hx hb dX11_hand_17 rfl (lv_at hl 0 rfl) ?_
      refine lv_iload_n hx hb dX11_hand_18 rfl (lv_at hl 2 rfl) ?_
      refine lv_bipush (v := (-9)) hx hb dX11_hand_19 (by decide) ?_
      refine x_runi hw (x_V (n := 2) (rest := []) C hw hm0 (by decide) (eX11_handOf hf hm0) q1097 q1099 q34 q53 q1100 rfl rfl (by decide +kernel) ⟨Nat.le_of_ble_eq_true rfl, Nat.le_of_ble_eq_true rfl⟩ rfl hl.1 rfl (Nat.le_of_ble_eq_true rfl) dX11_hand_21) (fun r8 σ7 H locs hf hw => ?_)
      try dsimp only at hf
      refine lv_istore_n (lv' := [(3, .int r8), (0, .ref (lay 11 0)), (1, .int a1), (2, .int a2)]) hx hb dX11_hand_24 rfl hl (by decide) rfl (fun ls hl => ?_)
      refine lv_iload_n hx hb dX11_hand_25 rfl (lv_at hl 0 rfl) ?_
      refine lv_if_ne (tgt := 35) hx hb dX11_hand_26 (by decide) (fun c9 => ?_) (fun c9 => ?_)
      · replace hf := hf.1 c9
        refine lv_aload_n hx hb dX11_hand_35 rfl (lv_at hl 1 rfl) ?_
        refine x_runv hw (x_V (n := 0) (rest := []) C hw hm0 (by decide) (eX11_setCounts hf hm0) q1079 q1081 q32 q53 q1082 rfl rfl (by decide +kernel) ⟨Nat.le_of_ble_eq_true rfl, Nat.le_of_ble_eq_true rfl⟩ rfl hl.1 rfl (Nat.le_of_ble_eq_true rfl) dX11_hand_36) (fun σ10 H locs hf hw => ?_)
        try dsimp only at hf
        refine lv_aload_n hx hb dX11_hand_39 rfl (lv_at hl 1 rfl) ?_
        refine lv_iload_n hx hb dX11_hand_40 rfl (lv_at hl 2 rfl) ?_
        refine lv_iload_n hx hb dX11_hand_41 rfl (lv_at hl 0 rfl) ?_
        refine x_runi hw (x_V (n := 2) (rest := []) C hw hm0 (by decide) (eX11_rateIn hf hm0) q1083 q1085 q33 q53 q1086 rfl rfl (by decide +kernel) ⟨Nat.le_of_ble_eq_true rfl, Nat.le_of_ble_eq_true rfl⟩ rfl hl.1 rfl (Nat.le_of_ble_eq_true rfl) dX11_hand_42) (fun r12 σ11 H locs hf hw => ?_)
        try dsimp only at hf
        exact x_iret C hret hw hf dX11_hand_45
      · replace hf := hf.2 c9
        refine lv_aload_n hx hb dX11_hand_29 rfl (lv_at hl 1 rfl) ?_
        refine lv_iconst (v := 4) hx hb dX11_hand_30 (by decide) ?_
        refine x_runi hw (x_V (n := 1) (rest := []) C hw hm0 (by decide) (eX11_meets hf hm0) q987 q989 q22 q53 q990 rfl rfl (by decide +kernel) ⟨Nat.le_of_ble_eq_true rfl, Nat.le_of_ble_eq_true rfl⟩ rfl hl.1 rfl (Nat.le_of_ble_eq_true rfl) dX11_hand_31) (fun r14 σ13 H locs hf hw => ?_)
        try dsimp only at hf
        exact x_iret C hret hw hf dX11_hand_34
    · replace hf := hf.2 c6
      refine lv_iconst (v := (-1)) hx hb dX11_hand_15 (by decide) ?_
      exact x_iret C hret hw hf dX11_hand_16
-- X11_mean
abbrev rmX11_mean : Room := { frames := 3, cells := 0, slots := 0, locals := 64 }
def fX11_mean_l17 (N : Nat) (a1 : Int32) (Q : Int32 → St → Prop) (Kx49 : St → Int32 → Prop) : Nat → St → Int32 → Int32 → Prop
  | 0, _, _, _ => False
  | n + 1, σ, v3, v4 => (vp_in a1 15 ∧ (((sA σ 75 0 (a1).toNatClampNeg) ≤ v4 → Kx49 σ v3) ∧ (¬ (sA σ 75 0 (a1).toNatClampNeg) ≤ v4 → (vp_in (((100 : Int32) * a1) + v4) 1500 ∧ fX11_mean_l17 N a1 Q Kx49 n σ (v3 + (sA σ 77 0 ((((100 : Int32) * a1) + v4)).toNatClampNeg)) (v4 + (1 : Int32))))))
set_option maxHeartbeats 4000000 in
set_option maxRecDepth 100000 in
theorem eX11_mean_l17 {p : Program} {l : Launch} {e : Env} {s : State} {m : MethodId} {args : Array Value} {below : List Frame} {meth : Method} {c : Code} {E : EC} {lay : Nat → Nat → Nat} {L : List (Nat × Nat)} {A : Nat → Prop} (C : Cx p s m args c meth yX11_mean.cls cX11_mean 5 E A) (hret : meth.sig.returnType = some .int) {N : Nat} {a1 : Int32} {Q : Int32 → St → Prop} {Kx49 : St → Int32 → Prop} (hm0 : (11, 0) ∈ L) (hK49 : ∀ (σ : St) (w3 : Int32) (H : Heap) (locs : List Loc) (ls : Array Slot), Kx49 σ w3 → Wo E lay L A s σ H locs → lv_has ls 5 [(0, .ref (lay 11 0)), (1, .int a1), (3, .int w3)] → W p l e rmX11_mean s m args below meth c H locs 0 0 (MQ below (va_Qi Q (Bd E lay L A) A) args s 0 0 A) (F0 m 49 ls [])) : ∀ (n : Nat) (σ : St) (v3 : Int32) (v4 : Int32) (H : Heap) (locs : List Loc) (ls : Array Slot), fX11_mean_l17 N a1 Q Kx49 n σ v3 v4 → Wo E lay L A s σ H locs → lv_has ls 5 [(0, .ref (lay 11 0)), (1, .int a1), (3, .int v3), (4, .int v4)] → W p l e rmX11_mean s m args below meth c H locs 0 0 (MQ below (va_Qi Q (Bd E lay L A) A) args s 0 0 A) (F0 m 17 ls []) := by
  have hx := C.1
  have hb := C.2.1
  intro n
  induction n with
  | zero => intro σ v3 v4 H locs ls hf; exact hf.elim
  | succ n ih =>
    intro σ v3 v4 H locs ls hf hw hl
    rw [fX11_mean_l17] at hf
    refine lv_iload hx hb dX11_mean_17 (lv_at hl 3 rfl) ?_
    refine lv_aload_n hx hb dX11_mean_19 rfl (lv_at hl 0 rfl) ?_
    have hm_4 : (75, 0) ∈ L := hw.2.2.2.1 11 0 hm0 15 (by decide) (by decide) rfl
    refine x_get (v := .ref (lay 75 0)) (j := 15) C hw hm0 rfl (by decide) (by decide) rfl q895 dX11_mean_20 ?_
    refine lv_iload_n hx hb dX11_mean_23 rfl (lv_at hl 1 rfl) ?_
    refine x_iald C hw hm_4 (by decide) rfl hf.1 dX11_mean_24 ?_
    replace hf := hf.2
    refine lv_icmp_ge (tgt := 49) hx hb dX11_mean_25 (by decide) (fun c5 => ?_) (fun c5 => ?_)
    · replace hf := hf.1 c5
      exact hK49 σ v3 _ _ _ hf hw (lv_sub hl [0, 1, 2] rfl)
    · replace hf := hf.2 c5
      refine lv_iload_n hx hb dX11_mean_28 rfl (lv_at hl 2 rfl) ?_
      refine lv_aload_n hx hb dX11_mean_29 rfl (lv_at hl 0 rfl) ?_
      have hm_6 : (77, 0) ∈ L := hw.2.2.2.1 11 0 hm0 17 (by decide) (by decide) rfl
      refine x_get (v := .ref (lay 77 0)) (j := 17) C hw hm0 rfl (by decide) (by decide) rfl q897 dX11_mean_30 ?_
      refine lv_bipush (v := 100) hx hb dX11_mean_33 (by decide) ?_
      refine lv_iload_n hx hb dX11_mean_35 rfl (lv_at hl 1 rfl) ?_
      refine lv_imul hx hb dX11_mean_36 ?_
      refine lv_iload hx hb dX11_mean_37 (lv_at hl 3 rfl) ?_
      refine lv_iadd hx hb dX11_mean_39 ?_
      refine x_iald C hw hm_6 (by decide) rfl hf.1 dX11_mean_40 ?_
      replace hf := hf.2
      refine lv_iadd hx hb dX11_mean_41 ?_
      refine lv_istore_n (lv' := [(3, .int (v3 + (sA σ 77 0 ((((100 : Int32) * a1) + v4)).toNatClampNeg))), (0, .ref (lay 11 0)), (1, .int a1), (4, .int v4)]) hx hb dX11_mean_42 rfl hl (by decide) rfl (fun ls hl => ?_)
      refine lv_iinc (v := (v4 + (1 : Int32))) (lv' := [(4, .int (v4 + (1 : Int32))), (3, .int (v3 + (sA σ 77 0 ((((100 : Int32) * a1) + v4)).toNatClampNeg))), (0, .ref (lay 11 0)), (1, .int a1)]) hx hb dX11_mean_43 hl (k := 3) rfl (by rfl) (by decide) rfl (fun ls hl => ?_)
      refine lv_goto (tgt := 17) hx hb dX11_mean_46 (by decide) ?_
      exact ih σ (v3 + (sA σ 77 0 ((((100 : Int32) * a1) + v4)).toNatClampNeg)) (v4 + (1 : Int32)) _ _ _ hf hw (lv_sub hl [2, 3, 1, 0] rfl)
def fX11_mean (N : Nat) (σ : St) (a1 : Int32) (Q : Int32 → St → Prop) : Prop := fX11_askedFor N σ a1 (fun (r2 : Int32) (σ1 : St) => ((0 ≤ r2 → fX11_mean_l17 N a1 Q (fun (σ7 : St) (u49_3 : Int32) => (vp_in a1 15 ∧ ((¬ (sA σ7 75 0 (a1).toNatClampNeg) = 0 → (vp_in a1 15 ∧ (¬ (sA σ7 75 0 (a1).toNatClampNeg) = 0 ∧ Q (u49_3 / (sA σ7 75 0 (a1).toNatClampNeg)) σ7))) ∧ ((sA σ7 75 0 (a1).toNatClampNeg) = 0 → fX11_meets N σ7 (4 : Int32) (fun (r12 : Int32) (σ11 : St) => Q r12 σ11))))) N σ1 (0 : Int32) (0 : Int32)) ∧ (¬ 0 ≤ r2 → Q r2 σ1)))
set_option maxHeartbeats 4000000 in
set_option maxRecDepth 100000 in
theorem eX11_mean {l : Launch} {E : EC} {lay : Nat → Nat → Nat} {L : List (Nat × Nat)} {A : Nat → Prop} {N : Nat} {σ : St} {a1 : Int32} {Q : Int32 → St → Prop} (hf : fX11_mean N σ a1 Q) (hm0 : (11, 0) ∈ L) : Met l yX11_mean (.code yX11_mean cX11_mean 5 (some .int) :: big) rmX11_mean (va_Pc [.ref (lay 11 0), .int a1] (Bp E lay L A σ)) (va_Qi Q (Bd E lay L A) A) 0 0 A := by
  refine x_met (by decide +kernel) (Nat.le_of_ble_eq_true rfl) ?_
  intro p e s m args below meth c ls C hret hw hl
  have hx := C.1
  have hb := C.2.1
  have hl : lv_has ls 5 [(0, .ref (lay 11 0)), (1, .int a1)] := hl
  unfold fX11_mean at hf
  refine lv_aload_n hx hb dX11_mean_0 rfl (lv_at hl 0 rfl) ?_
  refine lv_iload_n hx hb dX11_mean_1 rfl (lv_at hl 1 rfl) ?_
  refine x_runi hw (x_V (n := 1) (rest := []) C hw hm0 (by decide) (eX11_askedFor hf hm0) q1059 q1061 q28 q53 q1062 rfl rfl (by decide +kernel) ⟨Nat.le_of_ble_eq_true rfl, Nat.le_of_ble_eq_true rfl⟩ rfl hl.1 rfl (Nat.le_of_ble_eq_true rfl) dX11_mean_2) (fun r2 σ1 H locs hf hw => ?_)
  try dsimp only at hf
  refine lv_istore_n (lv' := [(2, .int r2), (0, .ref (lay 11 0)), (1, .int a1)]) hx hb dX11_mean_5 rfl hl (by decide) rfl (fun ls hl => ?_)
  refine lv_iload_n hx hb dX11_mean_6 rfl (lv_at hl 0 rfl) ?_
  refine lv_if_ge (tgt := 12) hx hb dX11_mean_7 (by decide) (fun c3 => ?_) (fun c3 => ?_)
  · replace hf := hf.1 c3
    refine lv_iconst (v := 0) hx hb dX11_mean_12 (by decide) ?_
    refine lv_istore_n (lv' := [(3, .int (0 : Int32)), (2, .int r2), (0, .ref (lay 11 0)), (1, .int a1)]) hx hb dX11_mean_13 rfl hl (by decide) rfl (fun ls hl => ?_)
    refine lv_iconst (v := 0) hx hb dX11_mean_14 (by decide) ?_
    refine lv_istore (lv' := [(4, .int (0 : Int32)), (3, .int (0 : Int32)), (2, .int r2), (0, .ref (lay 11 0)), (1, .int a1)]) hx hb dX11_mean_15 hl (by decide) rfl (fun ls hl => ?_)
    refine eX11_mean_l17 C hret hm0 ?_ N σ1 (0 : Int32) (0 : Int32) _ _ _ hf hw (lv_sub hl [3, 4, 1, 0] rfl)
    · intro σ7 u49_3 H locs ls hf hw hl
      refine lv_aload_n hx hb dX11_mean_49 rfl (lv_at hl 0 rfl) ?_
      have hm_8 : (75, 0) ∈ L := hw.2.2.2.1 11 0 hm0 15 (by decide) (by decide) rfl
      refine x_get (v := .ref (lay 75 0)) (j := 15) C hw hm0 rfl (by decide) (by decide) rfl q895 dX11_mean_50 ?_
      refine lv_iload_n hx hb dX11_mean_53 rfl (lv_at hl 1 rfl) ?_
      refine x_iald C hw hm_8 (by decide) rfl hf.1 dX11_mean_54 ?_
      replace hf := hf.2
      refine lv_if_ne (tgt := 66) hx hb dX11_mean_55 (by decide) (fun c9 => ?_) (fun c9 => ?_)
      · replace hf := hf.1 c9
        refine lv_iload_n hx hb dX11_mean_66 rfl (lv_at hl 2 rfl) ?_
        refine lv_aload_n hx hb dX11_mean_67 rfl (lv_at hl 0 rfl) ?_
        have hm_10 : (75, 0) ∈ L := hw.2.2.2.1 11 0 hm0 15 (by decide) (by decide) rfl
        refine x_get (v := .ref (lay 75 0)) (j := 15) C hw hm0 rfl (by decide) (by decide) rfl q895 dX11_mean_68 ?_
        refine lv_iload_n hx hb dX11_mean_71 rfl (lv_at hl 1 rfl) ?_
        refine x_iald C hw hm_10 (by decide) rfl hf.1 dX11_mean_72 ?_
        replace hf := hf.2
        refine lv_idiv hx hb dX11_mean_73 hf.1 ?_
        replace hf := hf.2
        exact x_iret C hret hw hf dX11_mean_74
      · replace hf := hf.2 c9
        refine lv_aload_n hx hb dX11_mean_58 rfl (lv_at hl 0 rfl) ?_
        refine lv_iconst (v := 4) hx hb dX11_mean_59 (by decide) ?_
        refine x_runi hw (x_V (n := 1) (rest := []) C hw hm0 (by decide) (eX11_meets hf hm0) q987 q989 q22 q53 q990 rfl rfl (by decide +kernel) ⟨Nat.le_of_ble_eq_true rfl, Nat.le_of_ble_eq_true rfl⟩ rfl hl.1 rfl (Nat.le_of_ble_eq_true rfl) dX11_mean_60) (fun r12 σ11 H locs hf hw => ?_)
        try dsimp only at hf
        refine lv_goto (tgt := 74) hx hb dX11_mean_63 (by decide) ?_
        exact x_iret C hret hw hf dX11_mean_74
  · replace hf := hf.2 c3
    refine lv_iload_n hx hb dX11_mean_10 rfl (lv_at hl 0 rfl) ?_
    exact x_iret C hret hw hf dX11_mean_11
-- X11_sort
abbrev rmX11_sort : Room := { frames := 1, cells := 0, slots := 0, locals := 22 }
def fX11_sort (N : Nat) (σ : St) (a1 : Int32) (Q : Int32 → St → Prop) : Prop := fX11_in N σ a1 (0 : Int32) (1 : Int32) (fun (r2 : Int32) (σ1 : St) => ((¬ r2 = 0 → ∀ σ4 : St, σ4 = setF σ1 11 0 24 a1 → Q (sF σ1 11 0 24) σ4) ∧ (r2 = 0 → Q (-1 : Int32) σ1)))
set_option maxHeartbeats 4000000 in
set_option maxRecDepth 100000 in
theorem eX11_sort {l : Launch} {E : EC} {lay : Nat → Nat → Nat} {L : List (Nat × Nat)} {A : Nat → Prop} {N : Nat} {σ : St} {a1 : Int32} {Q : Int32 → St → Prop} (hf : fX11_sort N σ a1 Q) (hm0 : (11, 0) ∈ L) : Met l yX11_sort (.code yX11_sort cX11_sort 3 (some .int) :: big) rmX11_sort (va_Pc [.ref (lay 11 0), .int a1] (Bp E lay L A σ)) (va_Qi Q (Bd E lay L A) A) 0 0 A := by
  refine x_met (by decide +kernel) (Nat.le_of_ble_eq_true rfl) ?_
  intro p e s m args below meth c ls C hret hw hl
  have hx := C.1
  have hb := C.2.1
  have hl : lv_has ls 3 [(0, .ref (lay 11 0)), (1, .int a1)] := hl
  unfold fX11_sort at hf
  refine lv_iload_n hx hb dX11_sort_0 rfl (lv_at hl 1 rfl) ?_
  refine lv_iconst (v := 0) hx hb dX11_sort_1 (by decide) ?_
  refine lv_iconst (v := 1) hx hb dX11_sort_2 (by decide) ?_
  refine x_runi hw (x_S (n := 3) (rest := []) C hw (eX11_in hf) q984 q985 q53 q986 rfl rfl (by decide +kernel) ⟨Nat.le_of_ble_eq_true rfl, Nat.le_of_ble_eq_true rfl⟩ rfl hl.1 rfl (Nat.le_of_ble_eq_true rfl) dX11_sort_3) (fun r2 σ1 H locs hf hw => ?_)
  have hzr2 := hf.2
  replace hf := hf.1
  try dsimp only at hf
  refine lv_if_ne (tgt := 11) hx hb dX11_sort_6 (by decide) (fun c3 => ?_) (fun c3 => ?_)
  · replace hf := hf.1 c3
    refine lv_aload_n hx hb dX11_sort_11 rfl (lv_at hl 0 rfl) ?_
    refine x_get (v := .int (sF σ1 11 0 24)) (j := 24) C hw hm0 rfl (by decide) (by decide) rfl q904 dX11_sort_12 ?_
    refine lv_istore_n (lv' := [(2, .int (sF σ1 11 0 24)), (0, .ref (lay 11 0)), (1, .int a1)]) hx hb dX11_sort_15 rfl hl (by decide) rfl (fun ls hl => ?_)
    refine lv_aload_n hx hb dX11_sort_16 rfl (lv_at hl 1 rfl) ?_
    refine lv_iload_n hx hb dX11_sort_17 rfl (lv_at hl 2 rfl) ?_
    refine x_putI (j := 24) (ty := .int) C hw hm0 rfl (by decide) (by decide) rfl rfl (by decide +kernel) rfl rfl q904 dX11_sort_18 (fun σ4 H locs eσ4 hw => ?_)
    replace hf := hf σ4 eσ4
    refine lv_iload_n hx hb dX11_sort_21 rfl (lv_at hl 0 rfl) ?_
    exact x_iret C hret hw hf dX11_sort_22
  · replace hf := hf.2 c3
    refine lv_iconst (v := (-1)) hx hb dX11_sort_9 (by decide) ?_
    exact x_iret C hret hw hf dX11_sort_10
-- X11_differing
abbrev rmX11_differing : Room := { frames := 0, cells := 0, slots := 0, locals := 0 }
def fX11_differing_b14 (N : Nat) (a1 : Int32) (a2 : Int32) (Q : Int32 → St → Prop) (σ : St) (t0 : Int32) : Prop := ((¬ (sF σ 11 0 24) = 0 → Q (t0 * t0) σ) ∧ ((sF σ 11 0 24) = 0 → Q t0 σ))
set_option maxHeartbeats 4000000 in
set_option maxRecDepth 100000 in
theorem eX11_differing_b14 {p : Program} {l : Launch} {e : Env} {s : State} {m : MethodId} {args : Array Value} {below : List Frame} {meth : Method} {c : Code} {E : EC} {lay : Nat → Nat → Nat} {L : List (Nat × Nat)} {A : Nat → Prop} (C : Cx p s m args c meth yX11_differing.cls cX11_differing 4 E A) (hret : meth.sig.returnType = some .int) {N : Nat} {a1 : Int32} {a2 : Int32} {Q : Int32 → St → Prop} (hm0 : (11, 0) ∈ L) (σ : St) (t0 : Int32) (H : Heap) (locs : List Loc) (ls : Array Slot) (hf : fX11_differing_b14 N a1 a2 Q σ t0) (hw : Wo E lay L A s σ H locs) (hl : lv_has ls 4 [(0, .ref (lay 11 0))]) : W p l e rmX11_differing s m args below meth c H locs 0 0 (MQ below (va_Qi Q (Bd E lay L A) A) args s 0 0 A) (F0 m 14 ls [.int t0]) := by
  have hx := C.1
  have hb := C.2.1
  unfold fX11_differing_b14 at hf
  refine lv_istore_n (lv' := [(3, .int t0), (0, .ref (lay 11 0))]) hx hb dX11_differing_14 rfl hl (by decide) rfl (fun ls hl => ?_)
  refine lv_aload_n hx hb dX11_differing_15 rfl (lv_at hl 1 rfl) ?_
  refine x_get (v := .int (sF σ 11 0 24)) (j := 24) C hw hm0 rfl (by decide) (by decide) rfl q904 dX11_differing_16 ?_
  refine lv_if_ne (tgt := 26) hx hb dX11_differing_19 (by decide) (fun c2 => ?_) (fun c2 => ?_)
  · replace hf := hf.1 c2
    refine lv_iload_n hx hb dX11_differing_26 rfl (lv_at hl 0 rfl) ?_
    refine lv_iload_n hx hb dX11_differing_27 rfl (lv_at hl 0 rfl) ?_
    refine lv_imul hx hb dX11_differing_28 ?_
    exact x_iret C hret hw hf dX11_differing_29
  · replace hf := hf.2 c2
    refine lv_iload_n hx hb dX11_differing_22 rfl (lv_at hl 0 rfl) ?_
    refine lv_goto (tgt := 29) hx hb dX11_differing_23 (by decide) ?_
    exact x_iret C hret hw hf dX11_differing_29
def fX11_differing (N : Nat) (σ : St) (a1 : Int32) (a2 : Int32) (Q : Int32 → St → Prop) : Prop := ((a1 ≤ a2 → fX11_differing_b14 N a1 a2 Q σ (a2 - a1)) ∧ (¬ a1 ≤ a2 → fX11_differing_b14 N a1 a2 Q σ (a1 - a2)))
set_option maxHeartbeats 4000000 in
set_option maxRecDepth 100000 in
theorem eX11_differing {l : Launch} {E : EC} {lay : Nat → Nat → Nat} {L : List (Nat × Nat)} {A : Nat → Prop} {N : Nat} {σ : St} {a1 : Int32} {a2 : Int32} {Q : Int32 → St → Prop} (hf : fX11_differing N σ a1 a2 Q) (hm0 : (11, 0) ∈ L) : Met l yX11_differing (.code yX11_differing cX11_differing 4 (some .int) :: big) rmX11_differing (va_Pc [.ref (lay 11 0), .int a1, .int a2] (Bp E lay L A σ)) (va_Qi Q (Bd E lay L A) A) 0 0 A := by
  refine x_met (by decide +kernel) (Nat.le_of_ble_eq_true rfl) ?_
  intro p e s m args below meth c ls C hret hw hl
  have hx := C.1
  have hb := C.2.1
  have hl : lv_has ls 4 [(0, .ref (lay 11 0)), (1, .int a1), (2, .int a2)] := hl
  unfold fX11_differing at hf
  refine lv_iload_n hx hb dX11_differing_0 rfl (lv_at hl 1 rfl) ?_
  refine lv_iload_n hx hb dX11_differing_1 rfl (lv_at hl 2 rfl) ?_
  refine lv_icmp_le (tgt := 11) hx hb dX11_differing_2 (by decide) (fun c1 => ?_) (fun c1 => ?_)
  · replace hf := hf.1 c1
    refine lv_iload_n hx hb dX11_differing_11 rfl (lv_at hl 2 rfl) ?_
    refine lv_iload_n hx hb dX11_differing_12 rfl (lv_at hl 1 rfl) ?_
    refine lv_isub hx hb dX11_differing_13 ?_
    exact eX11_differing_b14 C hret hm0 σ (a2 - a1) _ _ _ hf hw (lv_sub hl [0] rfl)
  · replace hf := hf.2 c1
    refine lv_iload_n hx hb dX11_differing_5 rfl (lv_at hl 1 rfl) ?_
    refine lv_iload_n hx hb dX11_differing_6 rfl (lv_at hl 2 rfl) ?_
    refine lv_isub hx hb dX11_differing_7 ?_
    refine lv_goto (tgt := 14) hx hb dX11_differing_8 (by decide) ?_
    exact eX11_differing_b14 C hret hm0 σ (a1 - a2) _ _ _ hf hw (lv_sub hl [0] rfl)
-- X11_farOf
abbrev rmX11_farOf : Room := { frames := 2, cells := 0, slots := 0, locals := 46 }
def fX11_farOf_b48_6 (N : Nat) (a1 : Int32) (a2 : Int32) (a3 : Int32) (Q : Int32 → St → Prop) (Kh : St → Int32 → Int32 → Prop) (Kx57 : St → Int32 → Prop) (σ : St) (v5 : Int32) (t0 : Int32) (t1 : Int32) : Prop := Kh σ (t1 + t0) (v5 + (1 : Int32))
def fX11_farOf_l6 (N : Nat) (a1 : Int32) (a2 : Int32) (a3 : Int32) (Q : Int32 → St → Prop) (Kx57 : St → Int32 → Prop) : Nat → St → Int32 → Int32 → Prop
  | 0, _, _, _ => False
  | n + 1, σ, v4, v5 => (((sF σ 11 0 18) ≤ v5 → Kx57 σ v4) ∧ (¬ (sF σ 11 0 18) ≤ v5 → fX11_has N σ a3 v5 (fun (r3 : Int32) (σ2 : St) => ((r3 = 0 → fX11_farOf_b48_6 N a1 a2 a3 Q (fun (σ : St) (w4 : Int32) (w5 : Int32) => fX11_farOf_l6 N a1 a2 a3 Q Kx57 n σ w4 w5) Kx57 σ2 v5 (0 : Int32) v4) ∧ (¬ r3 = 0 → fX11_rateIn N σ2 v5 a1 (fun (r6 : Int32) (σ5 : St) => fX11_rateIn N σ5 v5 a2 (fun (r8 : Int32) (σ7 : St) => fX11_differing N σ7 r6 r8 (fun (r10 : Int32) (σ9 : St) => fX11_farOf_b48_6 N a1 a2 a3 Q (fun (σ : St) (w4 : Int32) (w5 : Int32) => fX11_farOf_l6 N a1 a2 a3 Q Kx57 n σ w4 w5) Kx57 σ9 v5 r10 v4))))))))
set_option maxHeartbeats 4000000 in
set_option maxRecDepth 100000 in
theorem eX11_farOf_b48_6 {p : Program} {l : Launch} {e : Env} {s : State} {m : MethodId} {args : Array Value} {below : List Frame} {meth : Method} {c : Code} {E : EC} {lay : Nat → Nat → Nat} {L : List (Nat × Nat)} {A : Nat → Prop} (C : Cx p s m args c meth yX11_farOf.cls cX11_farOf 6 E A) (hret : meth.sig.returnType = some .int) {N : Nat} {a1 : Int32} {a2 : Int32} {a3 : Int32} {Q : Int32 → St → Prop} {Kh : St → Int32 → Int32 → Prop} {Kx57 : St → Int32 → Prop} (hm0 : (11, 0) ∈ L) (hKh : ∀ (σ : St) (w4 : Int32) (w5 : Int32) (H : Heap) (locs : List Loc) (ls : Array Slot), Kh σ w4 w5 → Wo E lay L A s σ H locs → lv_has ls 6 [(0, .ref (lay 11 0)), (1, .int a1), (2, .int a2), (3, .int a3), (4, .int w4), (5, .int w5)] → W p l e rmX11_farOf s m args below meth c H locs 0 0 (MQ below (va_Qi Q (Bd E lay L A) A) args s 0 0 A) (F0 m 6 ls [])) (hK57 : ∀ (σ : St) (w4 : Int32) (H : Heap) (locs : List Loc) (ls : Array Slot), Kx57 σ w4 → Wo E lay L A s σ H locs → lv_has ls 6 [(4, .int w4)] → W p l e rmX11_farOf s m args below meth c H locs 0 0 (MQ below (va_Qi Q (Bd E lay L A) A) args s 0 0 A) (F0 m 57 ls [])) (σ : St) (v5 : Int32) (t0 : Int32) (t1 : Int32) (H : Heap) (locs : List Loc) (ls : Array Slot) (hf : fX11_farOf_b48_6 N a1 a2 a3 Q Kh Kx57 σ v5 t0 t1) (hw : Wo E lay L A s σ H locs) (hl : lv_has ls 6 [(0, .ref (lay 11 0)), (1, .int a1), (2, .int a2), (3, .int a3), (5, .int v5)]) : W p l e rmX11_farOf s m args below meth c H locs 0 0 (MQ below (va_Qi Q (Bd E lay L A) A) args s 0 0 A) (F0 m 48 ls [.int t0, .int t1]) := by
  have hx := C.1
  have hb := C.2.1
  unfold fX11_farOf_b48_6 at hf
  refine lv_iadd hx hb dX11_farOf_48 ?_
  refine lv_istore (lv' := [(4, .int (t1 + t0)), (0, .ref (lay 11 0)), (1, .int a1), (2, .int a2), (3, .int a3), (5, .int v5)]) hx hb dX11_farOf_49 hl (by decide) rfl (fun ls hl => ?_)
  refine lv_iinc (v := (v5 + (1 : Int32))) (lv' := [(5, .int (v5 + (1 : Int32))), (4, .int (t1 + t0)), (0, .ref (lay 11 0)), (1, .int a1), (2, .int a2), (3, .int a3)]) hx hb dX11_farOf_51 hl (k := 5) rfl (by rfl) (by decide) rfl (fun ls hl => ?_)
  refine lv_goto (tgt := 6) hx hb dX11_farOf_54 (by decide) ?_
  exact hKh σ (t1 + t0) (v5 + (1 : Int32)) _ _ _ hf hw (lv_sub hl [2, 3, 4, 5, 1, 0] rfl)
set_option maxHeartbeats 4000000 in
set_option maxRecDepth 100000 in
theorem eX11_farOf_l6 {p : Program} {l : Launch} {e : Env} {s : State} {m : MethodId} {args : Array Value} {below : List Frame} {meth : Method} {c : Code} {E : EC} {lay : Nat → Nat → Nat} {L : List (Nat × Nat)} {A : Nat → Prop} (C : Cx p s m args c meth yX11_farOf.cls cX11_farOf 6 E A) (hret : meth.sig.returnType = some .int) {N : Nat} {a1 : Int32} {a2 : Int32} {a3 : Int32} {Q : Int32 → St → Prop} {Kx57 : St → Int32 → Prop} (hm0 : (11, 0) ∈ L) (hK57 : ∀ (σ : St) (w4 : Int32) (H : Heap) (locs : List Loc) (ls : Array Slot), Kx57 σ w4 → Wo E lay L A s σ H locs → lv_has ls 6 [(4, .int w4)] → W p l e rmX11_farOf s m args below meth c H locs 0 0 (MQ below (va_Qi Q (Bd E lay L A) A) args s 0 0 A) (F0 m 57 ls [])) : ∀ (n : Nat) (σ : St) (v4 : Int32) (v5 : Int32) (H : Heap) (locs : List Loc) (ls : Array Slot), fX11_farOf_l6 N a1 a2 a3 Q Kx57 n σ v4 v5 → Wo E lay L A s σ H locs → lv_has ls 6 [(0, .ref (lay 11 0)), (1, .int a1), (2, .int a2), (3, .int a3), (4, .int v4), (5, .int v5)] → W p l e rmX11_farOf s m args below meth c H locs 0 0 (MQ below (va_Qi Q (Bd E lay L A) A) args s 0 0 A) (F0 m 6 ls []) := by
  have hx := C.1
  have hb := C.2.1
  intro n
  induction n with
  | zero => intro σ v4 v5 H locs ls hf; exact hf.elim
  | succ n ih =>
    intro σ v4 v5 H locs ls hf hw hl
    rw [fX11_farOf_l6] at hf
    refine lv_iload hx hb dX11_farOf_6 (lv_at hl 5 rfl) ?_
    refine lv_aload_n hx hb dX11_farOf_8 rfl (lv_at hl 0 rfl) ?_
    refine x_get (v := .int (sF σ 11 0 18)) (j := 18) C hw hm0 rfl (by decide) (by decide) rfl q898 dX11_farOf_9 ?_
    refine lv_icmp_ge (tgt := 57) hx hb dX11_farOf_12 (by decide) (fun c1 => ?_) (fun c1 => ?_)
    · replace hf := hf.1 c1
      exact hK57 σ v4 _ _ _ hf hw (lv_sub hl [4] rfl)
    · replace hf := hf.2 c1
      refine lv_iload hx hb dX11_farOf_15 (lv_at hl 4 rfl) ?_
      refine lv_iload_n hx hb dX11_farOf_17 rfl (lv_at hl 3 rfl) ?_
      refine lv_iload hx hb dX11_farOf_18 (lv_at hl 5 rfl) ?_
      refine x_runi hw (x_S (n := 2) (rest := [.int v4]) C hw (eX11_has hf) q1087 q1088 q53 q1089 rfl rfl (by decide +kernel) ⟨Nat.le_of_ble_eq_true rfl, Nat.le_of_ble_eq_true rfl⟩ rfl hl.1 rfl (Nat.le_of_ble_eq_true rfl) dX11_farOf_20) (fun r3 σ2 H locs hf hw => ?_)
      have hzr3 := hf.2
      replace hf := hf.1
      try dsimp only at hf
      refine lv_if_eq (tgt := 47) hx hb dX11_farOf_23 (by decide) (fun c4 => ?_) (fun c4 => ?_)
      · replace hf := hf.1 c4
        refine lv_iconst (v := 0) hx hb dX11_farOf_47 (by decide) ?_
        exact eX11_farOf_b48_6 C hret hm0 ih hK57 σ2 v5 (0 : Int32) v4 _ _ _ hf hw (lv_sub hl [0, 1, 2, 3, 5] rfl)
      · replace hf := hf.2 c4
        refine lv_aload_n hx hb dX11_farOf_26 rfl (lv_at hl 0 rfl) ?_
        refine lv_aload_n hx hb dX11_farOf_27 rfl (lv_at hl 0 rfl) ?_
        refine lv_iload hx hb dX11_farOf_28 (lv_at hl 5 rfl) ?_
        refine lv_iload_n hx hb dX11_farOf_30 rfl (lv_at hl 1 rfl) ?_
        refine x_runi hw (x_V (n := 2) (rest := [.ref (lay 11 0), .int v4]) C hw hm0 (by decide) (eX11_rateIn hf hm0) q1083 q1085 q33 q53 q1086 rfl rfl (by decide +kernel) ⟨Nat.le_of_ble_eq_true rfl, Nat.le_of_ble_eq_true rfl⟩ rfl hl.1 rfl (Nat.le_of_ble_eq_true rfl) dX11_farOf_31) (fun r6 σ5 H locs hf hw => ?_)
        try dsimp only at hf
        refine lv_aload_n hx hb dX11_farOf_34 rfl (lv_at hl 0 rfl) ?_
        refine lv_iload hx hb dX11_farOf_35 (lv_at hl 5 rfl) ?_
        refine lv_iload_n hx hb dX11_farOf_37 rfl (lv_at hl 2 rfl) ?_
        refine x_runi hw (x_V (n := 2) (rest := [.int r6, .ref (lay 11 0), .int v4]) C hw hm0 (by decide) (eX11_rateIn hf hm0) q1083 q1085 q33 q53 q1086 rfl rfl (by decide +kernel) ⟨Nat.le_of_ble_eq_true rfl, Nat.le_of_ble_eq_true rfl⟩ rfl hl.1 rfl (Nat.le_of_ble_eq_true rfl) dX11_farOf_38) (fun r8 σ7 H locs hf hw => ?_)
        try dsimp only at hf
        refine x_runi hw (x_V (n := 2) (rest := [.int v4]) C hw hm0 (by decide) (eX11_differing hf hm0) q1121 q1123 q37 q53 q1124 rfl rfl (by decide +kernel) ⟨Nat.le_of_ble_eq_true rfl, Nat.le_of_ble_eq_true rfl⟩ rfl hl.1 rfl (Nat.le_of_ble_eq_true rfl) dX11_farOf_41) (fun r10 σ9 H locs hf hw => ?_)
        try dsimp only at hf
        refine lv_goto (tgt := 48) hx hb dX11_farOf_44 (by decide) ?_
        exact eX11_farOf_b48_6 C hret hm0 ih hK57 σ9 v5 r10 v4 _ _ _ hf hw (lv_sub hl [0, 1, 2, 3, 5] rfl)
def fX11_farOf (N : Nat) (σ : St) (a1 : Int32) (a2 : Int32) (a3 : Int32) (Q : Int32 → St → Prop) : Prop := fX11_farOf_l6 N a1 a2 a3 Q (fun (σ11 : St) (u57_4 : Int32) => Q u57_4 σ11) N σ (0 : Int32) (0 : Int32)
set_option maxHeartbeats 4000000 in
set_option maxRecDepth 100000 in
theorem eX11_farOf {l : Launch} {E : EC} {lay : Nat → Nat → Nat} {L : List (Nat × Nat)} {A : Nat → Prop} {N : Nat} {σ : St} {a1 : Int32} {a2 : Int32} {a3 : Int32} {Q : Int32 → St → Prop} (hf : fX11_farOf N σ a1 a2 a3 Q) (hm0 : (11, 0) ∈ L) : Met l yX11_farOf (.code yX11_farOf cX11_farOf 6 (some .int) :: big) rmX11_farOf (va_Pc [.ref (lay 11 0), .int a1, .int a2, .int a3] (Bp E lay L A σ)) (va_Qi Q (Bd E lay L A) A) 0 0 A := by
  refine x_met (by decide +kernel) (Nat.le_of_ble_eq_true rfl) ?_
  intro p e s m args below meth c ls C hret hw hl
  have hx := C.1
  have hb := C.2.1
  have hl : lv_has ls 6 [(0, .ref (lay 11 0)), (1, .int a1), (2, .int a2), (3, .int a3)] := hl
  unfold fX11_farOf at hf
  refine lv_iconst (v := 0) hx hb dX11_farOf_0 (by decide) ?_
  refine lv_istore (lv' := [(4, .int (0 : Int32)), (0, .ref (lay 11 0)), (1, .int a1), (2, .int a2), (3, .int a3)]) hx hb dX11_farOf_1 hl (by decide) rfl (fun ls hl => ?_)
  refine lv_iconst (v := 0) hx hb dX11_farOf_3 (by decide) ?_
  refine lv_istore (lv' := [(5, .int (0 : Int32)), (4, .int (0 : Int32)), (0, .ref (lay 11 0)), (1, .int a1), (2, .int a2), (3, .int a3)]) hx hb dX11_farOf_4 hl (by decide) rfl (fun ls hl => ?_)
  refine eX11_farOf_l6 C hret hm0 ?_ N σ (0 : Int32) (0 : Int32) _ _ _ hf hw (lv_sub hl [2, 3, 4, 5, 1, 0] rfl)
  · intro σ11 u57_4 H locs ls hf hw hl
    refine lv_iload hx hb dX11_farOf_57 (lv_at hl 0 rfl) ?_
    exact x_iret C hret hw hf dX11_farOf_59
-- X11_allFeatures
abbrev rmX11_allFeatures : Room := { frames := 0, cells := 0, slots := 0, locals := 0 }
def fX11_allFeatures (N : Nat) (σ : St) (Q : Int32 → St → Prop) : Prop := Q (((1 : Int32) <<< ((sF σ 11 0 18) &&& 31)) - (1 : Int32)) σ
set_option maxHeartbeats 4000000 in
set_option maxRecDepth 100000 in
theorem eX11_allFeatures {l : Launch} {E : EC} {lay : Nat → Nat → Nat} {L : List (Nat × Nat)} {A : Nat → Prop} {N : Nat} {σ : St} {Q : Int32 → St → Prop} (hf : fX11_allFeatures N σ Q) (hm0 : (11, 0) ∈ L) : Met l yX11_allFeatures (.code yX11_allFeatures cX11_allFeatures 1 (some .int) :: big) rmX11_allFeatures (va_Pc [.ref (lay 11 0)] (Bp E lay L A σ)) (va_Qi Q (Bd E lay L A) A) 0 0 A := by
  refine x_met (by decide +kernel) (Nat.le_of_ble_eq_true rfl) ?_
  intro p e s m args below meth c ls C hret hw hl
  have hx := C.1
  have hb := C.2.1
  have hl : lv_has ls 1 [(0, .ref (lay 11 0))] := hl
  unfold fX11_allFeatures at hf
  refine lv_iconst (v := 1) hx hb dX11_allFeatures_0 (by decide) ?_
  refine lv_aload_n hx hb dX11_allFeatures_1 rfl (lv_at hl 0 rfl) ?_
  refine x_get (v := .int (sF σ 11 0 18)) (j := 18) C hw hm0 rfl (by decide) (by decide) rfl q898 dX11_allFeatures_2 ?_
  refine lv_ishl hx hb dX11_allFeatures_5 ?_
  refine lv_iconst (v := 1) hx hb dX11_allFeatures_6 (by decide) ?_
  refine lv_isub hx hb dX11_allFeatures_7 ?_
  exact x_iret C hret hw hf dX11_allFeatures_8
-- X11_far
abbrev rmX11_far : Room := { frames := 4, cells := 0, slots := 0, locals := 99 }
def fX11_far_b36 (N : Nat) (a1 : Int32) (a2 : Int32) (Q : Int32 → St → Prop) (σ : St) : Prop := fX11_meets N σ (1 : Int32) (fun (r10 : Int32) (σ9 : St) => Q r10 σ9)
set_option maxHeartbeats 4000000 in
set_option maxRecDepth 100000 in
theorem eX11_far_b36 {p : Program} {l : Launch} {e : Env} {s : State} {m : MethodId} {args : Array Value} {below : List Frame} {meth : Method} {c : Code} {E : EC} {lay : Nat → Nat → Nat} {L : List (Nat × Nat)} {A : Nat → Prop} (C : Cx p s m args c meth yX11_far.cls cX11_far 3 E A) (hret : meth.sig.returnType = some .int) {N : Nat} {a1 : Int32} {a2 : Int32} {Q : Int32 → St → Prop} (hm0 : (11, 0) ∈ L) (σ : St) (H : Heap) (locs : List Loc) (ls : Array Slot) (hf : fX11_far_b36 N a1 a2 Q σ) (hw : Wo E lay L A s σ H locs) (hl : lv_has ls 3 [(0, .ref (lay 11 0))]) : W p l e rmX11_far s m args below meth c H locs 0 0 (MQ below (va_Qi Q (Bd E lay L A) A) args s 0 0 A) (F0 m 36 ls []) := by
  have hx := C.1
  have hb := C.2.1
  unfold fX11_far_b36 at hf
  refine lv_aload_n hx hb dX11_far_36 rfl (lv_at hl 0 rfl) ?_
  refine lv_iconst (v := 1) hx hb dX11_far_37 (by decide) ?_
  refine x_runi hw (x_V (n := 1) (rest := []) C hw hm0 (by decide) (eX11_meets hf hm0) q987 q989 q22 q53 q990 rfl rfl (by decide +kernel) ⟨Nat.le_of_ble_eq_true rfl, Nat.le_of_ble_eq_true rfl⟩ rfl hl.1 rfl (Nat.le_of_ble_eq_true rfl) dX11_far_38) (fun r10 σ9 H locs hf hw => ?_)
  try dsimp only at hf
  exact x_iret C hret hw hf dX11_far_41
def fX11_far (N : Nat) (σ : St) (a1 : Int32) (a2 : Int32) (Q : Int32 → St → Prop) : Prop := fX11_isText N σ a1 (fun (r2 : Int32) (σ1 : St) => ((r2 = 0 → Q (-1 : Int32) σ1) ∧ (¬ r2 = 0 → fX11_isText N σ1 a2 (fun (r5 : Int32) (σ4 : St) => ((¬ r5 = 0 → (vp_in a1 15 ∧ ((¬ (sA σ4 70 0 (a1).toNatClampNeg) = 0 → fX11_far_b36 N a1 a2 Q σ4) ∧ ((sA σ4 70 0 (a1).toNatClampNeg) = 0 → (vp_in a2 15 ∧ (((sA σ4 70 0 (a2).toNatClampNeg) = 0 → fX11_setCounts N σ4 (fun (σ13 : St) => fX11_allFeatures N σ13 (fun (r15 : Int32) (σ14 : St) => fX11_farOf N σ14 ((1 : Int32) <<< (a1 &&& 31)) ((1 : Int32) <<< (a2 &&& 31)) r15 (fun (r17 : Int32) (σ16 : St) => Q r17 σ16)))) ∧ (¬ (sA σ4 70 0 (a2).toNatClampNeg) = 0 → fX11_far_b36 N a1 a2 Q σ4))))))) ∧ (r5 = 0 → Q (-1 : Int32) σ4))))))
set_option maxHeartbeats 4000000 in
set_option maxRecDepth 100000 in
theorem eX11_far {l : Launch} {E : EC} {lay : Nat → Nat → Nat} {L : List (Nat × Nat)} {A : Nat → Prop} {N : Nat} {σ : St} {a1 : Int32} {a2 : Int32} {Q : Int32 → St → Prop} (hf : fX11_far N σ a1 a2 Q) (hm0 : (11, 0) ∈ L) : Met l yX11_far (.code yX11_far cX11_far 3 (some .int) :: big) rmX11_far (va_Pc [.ref (lay 11 0), .int a1, .int a2] (Bp E lay L A σ)) (va_Qi Q (Bd E lay L A) A) 0 0 A := by
  refine x_met (by decide +kernel) (Nat.le_of_ble_eq_true rfl) ?_
  intro p e s m args below meth c ls C hret hw hl
  have hx := C.1
  have hb := C.2.1
  have hl : lv_has ls 3 [(0, .ref (lay 11 0)), (1, .int a1), (2, .int a2)] := hl
  unfold fX11_far at hf
  refine lv_aload_n hx hb dX11_far_0 rfl (lv_at hl 0 rfl) ?_
  refine lv_iload_n hx hb dX11_far_1 rfl (lv_at hl 1 rfl) ?_
  refine x_runi hw (x_V (n := 1) (rest := []) C hw hm0 (by decide) (eX11_isText hf hm0) q1028 q1030 q25 q53 q1031 rfl rfl (by decide +kernel) ⟨Nat.le_of_ble_eq_true rfl, Nat.le_of_ble_eq_true rfl⟩ rfl hl.1 rfl (Nat.le_of_ble_eq_true rfl) dX11_far_2) (fun r2 σ1 H locs hf hw => ?_)
  have hzr2 := hf.2
  replace hf := hf.1
  try dsimp only at hf
  refine lv_if_eq (tgt := 16) hx hb dX11_far_5 (by decide) (fun c3 => ?_) (fun c3 => ?_)
  · replace hf := hf.1 c3
    refine lv_iconst (v := (-1)) hx hb dX11_far_16 (by decide) ?_
    exact x_iret C hret hw hf dX11_far_17
  · replace hf := hf.2 c3
    refine lv_aload_n hx hb dX11_far_8 rfl (lv_at hl 0 rfl) ?_
    refine lv_iload_n hx hb dX11_far_9 rfl (lv_at hl 2 rfl) ?_
    refine x_runi hw (x_V (n := 1) (rest := []) C hw hm0 (by decide) (eX11_isText hf hm0) q1028 q1030 q25 q53 q1031 rfl rfl (by decide +kernel) ⟨Nat.le_of_ble_eq_true rfl, Nat.le_of_ble_eq_true rfl⟩ rfl hl.1 rfl (Nat.le_of_ble_eq_true rfl) dX11_far_10) (fun r5 σ4 H locs hf hw => ?_)
    have hzr5 := hf.2
    replace hf := hf.1
    try dsimp only at hf
    refine lv_if_ne (tgt := 18) hx hb dX11_far_13 (by decide) (fun c6 => ?_) (fun c6 => ?_)
    · replace hf := hf.1 c6
      refine lv_aload_n hx hb dX11_far_18 rfl (lv_at hl 0 rfl) ?_
      have hm_7 : (70, 0) ∈ L := hw.2.2.2.1 11 0 hm0 10 (by decide) (by decide) rfl
      refine x_get (v := .ref (lay 70 0)) (j := 10) C hw hm0 rfl (by decide) (by decide) rfl q890 dX11_far_19 ?_
      refine lv_iload_n hx hb dX11_far_22 rfl (lv_at hl 1 rfl) ?_
      refine x_zald C hw hm_7 (by decide) rfl hf.1 dX11_far_23 ?_
      replace hf := hf.2
      refine lv_if_ne (tgt := 36) hx hb dX11_far_24 (by decide) (fun c8 => ?_) (fun c8 => ?_)
      · replace hf := hf.1 c8
        exact eX11_far_b36 C hret hm0 σ4 _ _ _ hf hw (lv_sub hl [0] rfl)
      · replace hf := hf.2 c8
        refine lv_aload_n hx hb dX11_far_27 rfl (lv_at hl 0 rfl) ?_
        have hm_11 : (70, 0) ∈ L := hw.2.2.2.1 11 0 hm0 10 (by decide) (by decide) rfl
        refine x_get (v := .ref (lay 70 0)) (j := 10) C hw hm0 rfl (by decide) (by decide) rfl q890 dX11_far_28 ?_
        refine lv_iload_n hx hb dX11_far_31 rfl (lv_at hl 2 rfl) ?_
        refine x_zald C hw hm_11 (by decide) rfl hf.1 dX11_far_32 ?_
        replace hf := hf.2
        refine lv_if_eq (tgt := 42) hx hb dX11_far_33 (by decide) (fun c12 => ?_) (fun c12 => ?_)
        · replace hf := hf.1 c12
          refine lv_aload_n hx hb dX11_far_42 rfl (lv_at hl 0 rfl) ?_
          refine x_runv hw (x_V (n := 0) (rest := []) C hw hm0 (by decide) (eX11_setCounts hf hm0) q1079 q1081 q32 q53 q1082 rfl rfl (by decide +kernel) ⟨Nat.le_of_ble_eq_true rfl, Nat.le_of_ble_eq_true rfl⟩ rfl hl.1 rfl (Nat.le_of_ble_eq_true rfl) dX11_far_43) (fun σ13 H locs hf hw => ?_)
          try dsimp only at hf
          refine lv_aload_n hx hb dX11_far_46 rfl (lv_at hl 0 rfl) ?_
          refine lv_iconst (v := 1) hx hb dX11_far_47 (by decide) ?_
          refine lv_iload_n hx hb dX11_far_48 rfl (lv_at hl 1 rfl) ?_
          refine lv_ishl hx hb dX11_far_49 ?_
          refine lv_iconst (v := 1) hx hb dX11_far_50 (by decide) ?_
          refine lv_iload_n hx hb dX11_far_51 rfl (lv_at hl 2 rfl) ?_
          refine lv_ishl hx hb dX11_far_52 ?_
          refine lv_aload_n hx hb dX11_far_53 rfl (lv_at hl 0 rfl) ?_
          refine x_runi hw (x_V (n := 0) (rest := [.int ((1 : Int32) <<< (a2 &&& 31)), .int ((1 : Int32) <<< (a1 &&& 31)), .ref (lay 11 0)]) C hw hm0 (by decide) (eX11_allFeatures hf hm0) q1113 q1115 q35 q53 q1116 rfl rfl (by decide +kernel) ⟨Nat.le_of_ble_eq_true rfl, Nat.le_of_ble_eq_true rfl⟩ rfl hl.1 rfl (Nat.le_of_ble_eq_true rfl) dX11_far_54) (fun r15 σ14 H locs hf hw => ?_)
          try dsimp only at hf
          refine x_runi hw (x_V (n := 3) (rest := []) C hw hm0 (by decide) (eX11_farOf hf hm0) q1117 q1119 q36 q53 q1120 rfl rfl (by decide +kernel) ⟨Nat.le_of_ble_eq_true rfl, Nat.le_of_ble_eq_true rfl⟩ rfl hl.1 rfl (Nat.le_of_ble_eq_true rfl) dX11_far_57) (fun r17 σ16 H locs hf hw => ?_)
          try dsimp only at hf
          exact x_iret C hret hw hf dX11_far_60
        · replace hf := hf.2 c12
          exact eX11_far_b36 C hret hm0 σ4 _ _ _ hf hw (lv_sub hl [0] rfl)
    · replace hf := hf.2 c6
      refine lv_iconst (v := (-1)) hx hb dX11_far_16 (by decide) ?_
      exact x_iret C hret hw hf dX11_far_17
-- X11_from
abbrev rmX11_from : Room := { frames := 4, cells := 0, slots := 0, locals := 99 }
def fX11_from (N : Nat) (σ : St) (a1 : Int32) (a2 : Int32) (Q : Int32 → St → Prop) : Prop := fX11_isWriter N σ a2 (fun (r2 : Int32) (σ1 : St) => ((¬ r2 = 0 → fX11_askedFor N σ1 a1 (fun (r5 : Int32) (σ4 : St) => ((0 ≤ r5 → fX11_handOf N σ4 a2 a1 (fun (r8 : Int32) (σ7 : St) => ((¬ r8 = 0 → fX11_setCounts N σ7 (fun (σ10 : St) => fX11_allFeatures N σ10 (fun (r12 : Int32) (σ11 : St) => fX11_farOf N σ11 ((1 : Int32) <<< (a1 &&& 31)) r8 r12 (fun (r14 : Int32) (σ13 : St) => Q r14 σ13)))) ∧ (r8 = 0 → fX11_meets N σ7 (4 : Int32) (fun (r16 : Int32) (σ15 : St) => Q r16 σ15))))) ∧ (¬ 0 ≤ r5 → Q r5 σ4)))) ∧ (r2 = 0 → Q (-1 : Int32) σ1)))
set_option maxHeartbeats 4000000 in
set_option maxRecDepth 100000 in
theorem eX11_from {l : Launch} {E : EC} {lay : Nat → Nat → Nat} {L : List (Nat × Nat)} {A : Nat → Prop} {N : Nat} {σ : St} {a1 : Int32} {a2 : Int32} {Q : Int32 → St → Prop} (hf : fX11_from N σ a1 a2 Q) (hm0 : (11, 0) ∈ L) : Met l yX11_from (.code yX11_from cX11_from 5 (some .int) :: big) rmX11_from (va_Pc [.ref (lay 11 0), .int a1, .int a2] (Bp E lay L A σ)) (va_Qi Q (Bd E lay L A) A) 0 0 A := by
  refine x_met (by decide +kernel) (Nat.le_of_ble_eq_true rfl) ?_
  intro p e s m args below meth c ls C hret hw hl
  have hx := C.1
  have hb := C.2.1
  have hl : lv_has ls 5 [(0, .ref (lay 11 0)), (1, .int a1), (2, .int a2)] := hl
  unfold fX11_from at hf
  refine lv_iload_n hx hb dX11_from_0 rfl (lv_at hl 2 rfl) ?_
  refine x_runi hw (x_S (n := 1) (rest := []) C hw (eX11_isWriter hf) q1094 q1095 q53 q1096 rfl rfl (by decide +kernel) ⟨Nat.le_of_ble_eq_true rfl, Nat.le_of_ble_eq_true rfl⟩ rfl hl.1 rfl (Nat.le_of_ble_eq_true rfl) dX11_from_1) (fun r2 σ1 H locs hf hw => ?_)
  have hzr2 := hf.2
  replace hf := hf.1
  try dsimp only at hf
  refine lv_if_ne (tgt := 9) hx hb dX11_from_4 (by decide) (fun c3 => ?_) (fun c3 => ?_)
  · replace hf := hf.1 c3
    refine lv_aload_n hx hb dX11_from_9 rfl (lv_at hl 0 rfl) ?_
    refine lv_iload_n hx hb dX11_from_10 rfl (lv_at hl 1 rfl) ?_
    refine x_runi hw (x_V (n := 1) (rest := []) C hw hm0 (by decide) (eX11_askedFor hf hm0) q1059 q1061 q28 q53 q1062 rfl rfl (by decide +kernel) ⟨Nat.le_of_ble_eq_true rfl, Nat.le_of_ble_eq_true rfl⟩ rfl hl.1 rfl (Nat.le_of_ble_eq_true rfl) dX11_from_11) (fun r5 σ4 H locs hf hw => ?_)
    try dsimp only at hf
    refine lv_istore_n (lv' := [(3, .int r5), (0, .ref (lay 11 0)), (1, .int a1), (2, .int a2)]) hx hb dX11_from_14 rfl hl (by decide) rfl (fun ls hl => ?_)
    refine lv_iload_n hx hb dX11_from_15 rfl (lv_at hl 0 rfl) ?_
    refine lv_if_ge (tgt := 21) hx hb dX11_from_16 (by decide) (fun c6 => ?_) (fun c6 => ?_)
    · replace hf := hf.1 c6
      refine lv_aload_n hx hb dX11_from_21 rfl (lv_at hl 1 rfl) ?_
      refine lv_iload_n hx hb dX11_from_22 rfl (lv_at hl 3 rfl) ?_
      refine lv_iload_n hx hb dX11_from_23 rfl (lv_at hl 2 rfl) ?_
      refine x_runi hw (x_V (n := 2) (rest := []) C hw hm0 (by decide) (eX11_handOf hf hm0) q1097 q1099 q34 q53 q1100 rfl rfl (by decide +kernel) ⟨Nat.le_of_ble_eq_true rfl, Nat.le_of_ble_eq_true rfl⟩ rfl hl.1 rfl (Nat.le_of_ble_eq_true rfl) dX11_from_24) (fun r8 σ7 H locs hf hw => ?_)
      try dsimp only at hf
      refine lv_istore (lv' := [(4, .int r8), (3, .int r5), (0, .ref (lay 11 0)), (1, .int a1), (2, .int a2)]) hx hb dX11_from_27 hl (by decide) rfl (fun ls hl => ?_)
      refine lv_iload hx hb dX11_from_29 (lv_at hl 0 rfl) ?_
      refine lv_if_ne (tgt := 40) hx hb dX11_from_31 (by decide) (fun c9 => ?_) (fun c9 => ?_)
      · replace hf := hf.1 c9
        refine lv_aload_n hx hb dX11_from_40 rfl (lv_at hl 2 rfl) ?_
        refine x_runv hw (x_V (n := 0) (rest := []) C hw hm0 (by decide) (eX11_setCounts hf hm0) q1079 q1081 q32 q53 q1082 rfl rfl (by decide +kernel) ⟨Nat.le_of_ble_eq_true rfl, Nat.le_of_ble_eq_true rfl⟩ rfl hl.1 rfl (Nat.le_of_ble_eq_true rfl) dX11_from_41) (fun σ10 H locs hf hw => ?_)
        try dsimp only at hf
        refine lv_aload_n hx hb dX11_from_44 rfl (lv_at hl 2 rfl) ?_
        refine lv_iconst (v := 1) hx hb dX11_from_45 (by decide) ?_
        refine lv_iload_n hx hb dX11_from_46 rfl (lv_at hl 3 rfl) ?_
        refine lv_ishl hx hb dX11_from_47 ?_
        refine lv_iload hx hb dX11_from_48 (lv_at hl 0 rfl) ?_
        refine lv_aload_n hx hb dX11_from_50 rfl (lv_at hl 2 rfl) ?_
        refine x_runi hw (x_V (n := 0) (rest := [.int r8, .int ((1 : Int32) <<< (a1 &&& 31)), .ref (lay 11 0)]) C hw hm0 (by decide) (eX11_allFeatures hf hm0) q1113 q1115 q35 q53 q1116 rfl rfl (by decide +kernel) ⟨Nat.le_of_ble_eq_true rfl, Nat.le_of_ble_eq_true rfl⟩ rfl hl.1 rfl (Nat.le_of_ble_eq_true rfl) dX11_from_51) (fun r12 σ11 H locs hf hw => ?_)
        try dsimp only at hf
        refine x_runi hw (x_V (n := 3) (rest := []) C hw hm0 (by decide) (eX11_farOf hf hm0) q1117 q1119 q36 q53 q1120 rfl rfl (by decide +kernel) ⟨Nat.le_of_ble_eq_true rfl, Nat.le_of_ble_eq_true rfl⟩ rfl hl.1 rfl (Nat.le_of_ble_eq_true rfl) dX11_from_54) (fun r14 σ13 H locs hf hw => ?_)
        try dsimp only at hf
        exact x_iret C hret hw hf dX11_from_57
      · replace hf := hf.2 c9
        refine lv_aload_n hx hb dX11_from_34 rfl (lv_at hl 2 rfl) ?_
        refine lv_iconst (v := 4) hx hb dX11_from_35 (by decide) ?_
        refine x_runi hw (x_V (n := 1) (rest := []) C hw hm0 (by decide) (eX11_meets hf hm0) q987 q989 q22 q53 q990 rfl rfl (by decide +kernel) ⟨Nat.le_of_ble_eq_true rfl, Nat.le_of_ble_eq_true rfl⟩ rfl hl.1 rfl (Nat.le_of_ble_eq_true rfl) dX11_from_36) (fun r16 σ15 H locs hf hw => ?_)
        try dsimp only at hf
        exact x_iret C hret hw hf dX11_from_39
    · replace hf := hf.2 c6
      refine lv_iload_n hx hb dX11_from_19 rfl (lv_at hl 0 rfl) ?_
      exact x_iret C hret hw hf dX11_from_20
  · replace hf := hf.2 c3
    refine lv_iconst (v := (-1)) hx hb dX11_from_7 (by decide) ?_
    exact x_iret C hret hw hf dX11_from_8
-- X11_nearestOf
abbrev rmX11_nearestOf : Room := { frames := 3, cells := 0, slots := 0, locals := 71 }
def fX11_nearestOf_b60_9 (N : Nat) (a1 : Int32) (a2 : Int32) (Q : Int32 → St → Prop) (Kh : St → Int32 → Int32 → Int32 → Prop) (Kx66 : St → Int32 → Prop) (σ : St) (v3 : Int32) (v4 : Int32) (v5 : Int32) : Prop := Kh σ v3 v4 (v5 + (1 : Int32))
def fX11_nearestOf_b53_9 (N : Nat) (a1 : Int32) (a2 : Int32) (Q : Int32 → St → Prop) (Kh : St → Int32 → Int32 → Int32 → Prop) (Kx66 : St → Int32 → Prop) (σ : St) (v5 : Int32) (v7 : Int32) : Prop := fX11_nearestOf_b60_9 N a1 a2 Q Kh Kx66 σ v5 v7 v5
def fX11_nearestOf_l9 (N : Nat) (a1 : Int32) (a2 : Int32) (Q : Int32 → St → Prop) (Kx66 : St → Int32 → Prop) : Nat → St → Int32 → Int32 → Int32 → Prop
  | 0, _, _, _, _ => False
  | n + 1, σ, v3, v4, v5 => (((6 : Int32) ≤ v5 → Kx66 σ v3) ∧ (¬ (6 : Int32) ≤ v5 → fX11_handOf N σ v5 a1 (fun (r3 : Int32) (σ2 : St) => ((r3 = 0 → fX11_nearestOf_b60_9 N a1 a2 Q (fun (σ : St) (w3 : Int32) (w4 : Int32) (w5 : Int32) => fX11_nearestOf_l9 N a1 a2 Q Kx66 n σ w3 w4 w5) Kx66 σ2 v3 v4 v5) ∧ (¬ r3 = 0 → fX11_farOf N σ2 ((1 : Int32) <<< (a1 &&& 31)) r3 a2 (fun (r6 : Int32) (σ5 : St) => ((v3 < 0 → fX11_nearestOf_b53_9 N a1 a2 Q (fun (σ : St) (w3 : Int32) (w4 : Int32) (w5 : Int32) => fX11_nearestOf_l9 N a1 a2 Q Kx66 n σ w3 w4 w5) Kx66 σ5 v5 r6) ∧ (¬ v3 < 0 → ((v4 ≤ r6 → fX11_nearestOf_b60_9 N a1 a2 Q (fun (σ : St) (w3 : Int32) (w4 : Int32) (w5 : Int32) => fX11_nearestOf_l9 N a1 a2 Q Kx66 n σ w3 w4 w5) Kx66 σ5 v3 v4 v5) ∧ (¬ v4 ≤ r6 → fX11_nearestOf_b53_9 N a1 a2 Q (fun (σ : St) (w3 : Int32) (w4 : Int32) (w5 : Int32) => fX11_nearestOf_l9 N a1 a2 Q Kx66 n σ w3 w4 w5) Kx66 σ5 v5 r6))))))))))
set_option maxHeartbeats 4000000 in
set_option maxRecDepth 100000 in
theorem eX11_nearestOf_b60_9 {p : Program} {l : Launch} {e : Env} {s : State} {m : MethodId} {args : Array Value} {below : List Frame} {meth : Method} {c : Code} {E : EC} {lay : Nat → Nat → Nat} {L : List (Nat × Nat)} {A : Nat → Prop} (C : Cx p s m args c meth yX11_nearestOf.cls cX11_nearestOf 8 E A) (hret : meth.sig.returnType = some .int) {N : Nat} {a1 : Int32} {a2 : Int32} {Q : Int32 → St → Prop} {Kh : St → Int32 → Int32 → Int32 → Prop} {Kx66 : St → Int32 → Prop} (hm0 : (11, 0) ∈ L) (hKh : ∀ (σ : St) (w3 : Int32) (w4 : Int32) (w5 : Int32) (H : Heap) (locs : List Loc) (ls : Array Slot), Kh σ w3 w4 w5 → Wo E lay L A s σ H locs → lv_has ls 8 [(0, .ref (lay 11 0)), (1, .int a1), (2, .int a2), (3, .int w3), (4, .int w4), (5, .int w5)] → W p l e rmX11_nearestOf s m args below meth c H locs 0 0 (MQ below (va_Qi Q (Bd E lay L A) A) args s 0 0 A) (F0 m 9 ls [])) (hK66 : ∀ (σ : St) (w3 : Int32) (H : Heap) (locs : List Loc) (ls : Array Slot), Kx66 σ w3 → Wo E lay L A s σ H locs → lv_has ls 8 [(3, .int w3)] → W p l e rmX11_nearestOf s m args below meth c H locs 0 0 (MQ below (va_Qi Q (Bd E lay L A) A) args s 0 0 A) (F0 m 66 ls [])) (σ : St) (v3 : Int32) (v4 : Int32) (v5 : Int32) (H : Heap) (locs : List Loc) (ls : Array Slot) (hf : fX11_nearestOf_b60_9 N a1 a2 Q Kh Kx66 σ v3 v4 v5) (hw : Wo E lay L A s σ H locs) (hl : lv_has ls 8 [(0, .ref (lay 11 0)), (1, .int a1), (2, .int a2), (3, .int v3), (4, .int v4), (5, .int v5)]) : W p l e rmX11_nearestOf s m args below meth c H locs 0 0 (MQ below (va_Qi Q (Bd E lay L A) A) args s 0 0 A) (F0 m 60 ls []) := by
  have hx := C.1
  have hb := C.2.1
  unfold fX11_nearestOf_b60_9 at hf
  refine lv_iinc (v := (v5 + (1 : Int32))) (lv' := [(5, .int (v5 + (1 : Int32))), (0, .ref (lay 11 0)), (1, .int a1), (2, .int a2), (3, .int v3), (4, .int v4)]) hx hb dX11_nearestOf_60 hl (k := 5) rfl (by rfl) (by decide) rfl (fun ls hl => ?_)
  refine lv_goto (tgt := 9) hx hb dX11_nearestOf_63 (by decide) ?_
  exact hKh σ v3 v4 (v5 + (1 : Int32)) _ _ _ hf hw (lv_sub hl [1, 2, 3, 4, 5, 0] rfl)
set_option maxHeartbeats 4000000 in
set_option maxRecDepth 100000 in
theorem eX11_nearestOf_b53_9 {p : Program} {l : Launch} {e : Env} {s : State} {m : MethodId} {args : Array Value} {below : List Frame} {meth : Method} {c : Code} {E : EC} {lay : Nat → Nat → Nat} {L : List (Nat × Nat)} {A : Nat → Prop} (C : Cx p s m args c meth yX11_nearestOf.cls cX11_nearestOf 8 E A) (hret : meth.sig.returnType = some .int) {N : Nat} {a1 : Int32} {a2 : Int32} {Q : Int32 → St → Prop} {Kh : St → Int32 → Int32 → Int32 → Prop} {Kx66 : St → Int32 → Prop} (hm0 : (11, 0) ∈ L) (hKh : ∀ (σ : St) (w3 : Int32) (w4 : Int32) (w5 : Int32) (H : Heap) (locs : List Loc) (ls : Array Slot), Kh σ w3 w4 w5 → Wo E lay L A s σ H locs → lv_has ls 8 [(0, .ref (lay 11 0)), (1, .int a1), (2, .int a2), (3, .int w3), (4, .int w4), (5, .int w5)] → W p l e rmX11_nearestOf s m args below meth c H locs 0 0 (MQ below (va_Qi Q (Bd E lay L A) A) args s 0 0 A) (F0 m 9 ls [])) (hK66 : ∀ (σ : St) (w3 : Int32) (H : Heap) (locs : List Loc) (ls : Array Slot), Kx66 σ w3 → Wo E lay L A s σ H locs → lv_has ls 8 [(3, .int w3)] → W p l e rmX11_nearestOf s m args below meth c H locs 0 0 (MQ below (va_Qi Q (Bd E lay L A) A) args s 0 0 A) (F0 m 66 ls [])) (σ : St) (v5 : Int32) (v7 : Int32) (H : Heap) (locs : List Loc) (ls : Array Slot) (hf : fX11_nearestOf_b53_9 N a1 a2 Q Kh Kx66 σ v5 v7) (hw : Wo E lay L A s σ H locs) (hl : lv_has ls 8 [(0, .ref (lay 11 0)), (1, .int a1), (2, .int a2), (5, .int v5), (7, .int v7)]) : W p l e rmX11_nearestOf s m args below meth c H locs 0 0 (MQ below (va_Qi Q (Bd E lay L A) A) args s 0 0 A) (F0 m 53 ls []) := by
  have hx := C.1
  have hb := C.2.1
  unfold fX11_nearestOf_b53_9 at hf
  refine lv_iload hx hb dX11_nearestOf_53 (lv_at hl 3 rfl) ?_
  refine lv_istore_n (lv' := [(3, .int v5), (0, .ref (lay 11 0)), (1, .int a1), (2, .int a2), (5, .int v5), (7, .int v7)]) hx hb dX11_nearestOf_55 rfl hl (by decide) rfl (fun ls hl => ?_)
  refine lv_iload hx hb dX11_nearestOf_56 (lv_at hl 5 rfl) ?_
  refine lv_istore (lv' := [(4, .int v7), (3, .int v5), (0, .ref (lay 11 0)), (1, .int a1), (2, .int a2), (5, .int v5), (7, .int v7)]) hx hb dX11_nearestOf_58 hl (by decide) rfl (fun ls hl => ?_)
  exact eX11_nearestOf_b60_9 C hret hm0 hKh hK66 σ v5 v7 v5 _ _ _ hf hw (lv_sub hl [2, 3, 4, 1, 0, 5] rfl)
set_option maxHeartbeats 4000000 in
set_option maxRecDepth 100000 in
theorem eX11_nearestOf_l9 {p : Program} {l : Launch} {e : Env} {s : State} {m : MethodId} {args : Array Value} {below : List Frame} {meth : Method} {c : Code} {E : EC} {lay : Nat → Nat → Nat} {L : List (Nat × Nat)} {A : Nat → Prop} (C : Cx p s m args c meth yX11_nearestOf.cls cX11_nearestOf 8 E A) (hret : meth.sig.returnType = some .int) {N : Nat} {a1 : Int32} {a2 : Int32} {Q : Int32 → St → Prop} {Kx66 : St → Int32 → Prop} (hm0 : (11, 0) ∈ L) (hK66 : ∀ (σ : St) (w3 : Int32) (H : Heap) (locs : List Loc) (ls : Array Slot), Kx66 σ w3 → Wo E lay L A s σ H locs → lv_has ls 8 [(3, .int w3)] → W p l e rmX11_nearestOf s m args below meth c H locs 0 0 (MQ below (va_Qi Q (Bd E lay L A) A) args s 0 0 A) (F0 m 66 ls [])) : ∀ (n : Nat) (σ : St) (v3 : Int32) (v4 : Int32) (v5 : Int32) (H : Heap) (locs : List Loc) (ls : Array Slot), fX11_nearestOf_l9 N a1 a2 Q Kx66 n σ v3 v4 v5 → Wo E lay L A s σ H locs → lv_has ls 8 [(0, .ref (lay 11 0)), (1, .int a1), (2, .int a2), (3, .int v3), (4, .int v4), (5, .int v5)] → W p l e rmX11_nearestOf s m args below meth c H locs 0 0 (MQ below (va_Qi Q (Bd E lay L A) A) args s 0 0 A) (F0 m 9 ls []) := by
  have hx := C.1
  have hb := C.2.1
  intro n
  induction n with
  | zero => intro σ v3 v4 v5 H locs ls hf; exact hf.elim
  | succ n ih =>
    intro σ v3 v4 v5 H locs ls hf hw hl
    rw [fX11_nearestOf_l9] at hf
    refine lv_iload hx hb dX11_nearestOf_9 (lv_at hl 5 rfl) ?_
    refine lv_bipush (v := 6) hx hb dX11_nearestOf_11 (by decide) ?_
    refine lv_icmp_ge (tgt := 66) hx hb dX11_nearestOf_13 (by decide) (fun c1 => ?_) (fun c1 => ?_)
    · replace hf := hf.1 c1
      exact hK66 σ v3 _ _ _ hf hw (lv_sub hl [3] rfl)
    · replace hf := hf.2 c1
      refine lv_aload_n hx hb dX11_nearestOf_16 rfl (lv_at hl 0 rfl) ?_
      refine lv_iload hx hb dX11_nearestOf_17 (lv_at hl 5 rfl) ?_
      refine lv_iload_n hx hb dX11_nearestOf_19 rfl (lv_at hl 1 rfl) ?_
      refine x_runi hw (x_V (n := 2) (rest := []) C hw hm0 (by decide) (eX11_handOf hf hm0) q1097 q1099 q34 q53 q1100 rfl rfl (by decide +kernel) ⟨Nat.le_of_ble_eq_true rfl, Nat.le_of_ble_eq_true rfl⟩ rfl hl.1 rfl (Nat.le_of_ble_eq_true rfl) dX11_nearestOf_20) (fun r3 σ2 H locs hf hw => ?_)
      try dsimp only at hf
      refine lv_istore (lv' := [(6, .int r3), (0, .ref (lay 11 0)), (1, .int a1), (2, .int a2), (3, .int v3), (4, .int v4), (5, .int v5)]) hx hb dX11_nearestOf_23 hl (by decide) rfl (fun ls hl => ?_)
      refine lv_iload hx hb dX11_nearestOf_25 (lv_at hl 0 rfl) ?_
      refine lv_if_eq (tgt := 60) hx hb dX11_nearestOf_27 (by decide) (fun c4 => ?_) (fun c4 => ?_)
      · replace hf := hf.1 c4
        exact eX11_nearestOf_b60_9 C hret hm0 ih hK66 σ2 v3 v4 v5 _ _ _ hf hw (lv_sub hl [1, 2, 3, 4, 5, 6] rfl)
      · replace hf := hf.2 c4
        refine lv_aload_n hx hb dX11_nearestOf_30 rfl (lv_at hl 1 rfl) ?_
        refine lv_iconst (v := 1) hx hb dX11_nearestOf_31 (by decide) ?_
        refine lv_iload_n hx hb dX11_nearestOf_32 rfl (lv_at hl 2 rfl) ?_
        refine lv_ishl hx hb dX11_nearestOf_33 ?_
        refine lv_iload hx hb dX11_nearestOf_34 (lv_at hl 0 rfl) ?_
        refine lv_iload_n hx hb dX11_nearestOf_36 rfl (lv_at hl 3 rfl) ?_
        refine x_runi hw (x_V (n := 3) (rest := []) C hw hm0 (by decide) (eX11_farOf hf hm0) q1117 q1119 q36 q53 q1120 rfl rfl (by decide +kernel) ⟨Nat.le_of_ble_eq_true rfl, Nat.le_of_ble_eq_true rfl⟩ rfl hl.1 rfl (Nat.le_of_ble_eq_true rfl) dX11_nearestOf_37) (fun r6 σ5 H locs hf hw => ?_)
        try dsimp only at hf
        refine lv_istore (lv' := [(7, .int r6), (6, .int r3), (0, .ref (lay 11 0)), (1, .int a1), (2, .int a2), (3, .int v3), (4, .int v4), (5, .int v5)]) hx hb dX11_nearestOf_40 hl (by decide) rfl (fun ls hl => ?_)
        refine lv_iload_n hx hb dX11_nearestOf_42 rfl (lv_at hl 5 rfl) ?_
        refine lv_if_lt (tgt := 53) hx hb dX11_nearestOf_43 (by decide) (fun c7 => ?_) (fun c7 => ?_)
        · replace hf := hf.1 c7
          exact eX11_nearestOf_b53_9 C hret hm0 ih hK66 σ5 v5 r6 _ _ _ hf hw (lv_sub hl [2, 3, 4, 7, 0] rfl)
        · replace hf := hf.2 c7
          refine lv_iload hx hb dX11_nearestOf_46 (lv_at hl 0 rfl) ?_
          refine lv_iload hx hb dX11_nearestOf_48 (lv_at hl 6 rfl) ?_
          refine lv_icmp_ge (tgt := 60) hx hb dX11_nearestOf_50 (by decide) (fun c8 => ?_) (fun c8 => ?_)
          · replace hf := hf.1 c8
            exact eX11_nearestOf_b60_9 C hret hm0 ih hK66 σ5 v3 v4 v5 _ _ _ hf hw (lv_sub hl [2, 3, 4, 5, 6, 7] rfl)
          · replace hf := hf.2 c8
            exact eX11_nearestOf_b53_9 C hret hm0 ih hK66 σ5 v5 r6 _ _ _ hf hw (lv_sub hl [2, 3, 4, 7, 0] rfl)
def fX11_nearestOf (N : Nat) (σ : St) (a1 : Int32) (a2 : Int32) (Q : Int32 → St → Prop) : Prop := fX11_nearestOf_l9 N a1 a2 Q (fun (σ9 : St) (u66_3 : Int32) => Q u66_3 σ9) N σ (-9 : Int32) (0 : Int32) (0 : Int32)
set_option maxHeartbeats 4000000 in
set_option maxRecDepth 100000 in
theorem eX11_nearestOf {l : Launch} {E : EC} {lay : Nat → Nat → Nat} {L : List (Nat × Nat)} {A : Nat → Prop} {N : Nat} {σ : St} {a1 : Int32} {a2 : Int32} {Q : Int32 → St → Prop} (hf : fX11_nearestOf N σ a1 a2 Q) (hm0 : (11, 0) ∈ L) : Met l yX11_nearestOf (.code yX11_nearestOf cX11_nearestOf 8 (some .int) :: big) rmX11_nearestOf (va_Pc [.ref (lay 11 0), .int a1, .int a2] (Bp E lay L A σ)) (va_Qi Q (Bd E lay L A) A) 0 0 A := by
  refine x_met (by decide +kernel) (Nat.le_of_ble_eq_true rfl) ?_
  intro p e s m args below meth c ls C hret hw hl
  have hx := C.1
  have hb := C.2.1
  have hl : lv_has ls 8 [(0, .ref (lay 11 0)), (1, .int a1), (2, .int a2)] := hl
  unfold fX11_nearestOf at hf
  refine lv_bipush (v := (-9)) hx hb dX11_nearestOf_0 (by decide) ?_
  refine lv_istore_n (lv' := [(3, .int (-9 : Int32)), (0, .ref (lay 11 0)), (1, .int a1), (2, .int a2)]) hx hb dX11_nearestOf_2 rfl hl (by decide) rfl (fun ls hl => ?_)
  refine lv_iconst (v := 0) hx hb dX11_nearestOf_3 (by decide) ?_
  refine lv_istore (lv' := [(4, .int (0 : Int32)), (3, .int (-9 : Int32)), (0, .ref (lay 11 0)), (1, .int a1), (2, .int a2)]) hx hb dX11_nearestOf_4 hl (by decide) rfl (fun ls hl => ?_)
  refine lv_iconst (v := 0) hx hb dX11_nearestOf_6 (by decide) ?_
  refine lv_istore (lv' := [(5, .int (0 : Int32)), (4, .int (0 : Int32)), (3, .int (-9 : Int32)), (0, .ref (lay 11 0)), (1, .int a1), (2, .int a2)]) hx hb dX11_nearestOf_7 hl (by decide) rfl (fun ls hl => ?_)
  refine eX11_nearestOf_l9 C hret hm0 ?_ N σ (-9 : Int32) (0 : Int32) (0 : Int32) _ _ _ hf hw (lv_sub hl [3, 4, 5, 2, 1, 0] rfl)
  · intro σ9 u66_3 H locs ls hf hw hl
    refine lv_iload_n hx hb dX11_nearestOf_66 rfl (lv_at hl 0 rfl) ?_
    exact x_iret C hret hw hf dX11_nearestOf_67
-- X11_nearest
abbrev rmX11_nearest : Room := { frames := 4, cells := 0, slots := 0, locals := 99 }
def fX11_nearest (N : Nat) (σ : St) (a1 : Int32) (Q : Int32 → St → Prop) : Prop := fX11_askedFor N σ a1 (fun (r2 : Int32) (σ1 : St) => ((0 ≤ r2 → fX11_setCounts N σ1 (fun (σ4 : St) => fX11_allFeatures N σ4 (fun (r6 : Int32) (σ5 : St) => fX11_nearestOf N σ5 a1 r6 (fun (r8 : Int32) (σ7 : St) => Q r8 σ7)))) ∧ (¬ 0 ≤ r2 → Q r2 σ1)))
set_option maxHeartbeats 4000000 in
set_option maxRecDepth 100000 in
theorem eX11_nearest {l : Launch} {E : EC} {lay : Nat → Nat → Nat} {L : List (Nat × Nat)} {A : Nat → Prop} {N : Nat} {σ : St} {a1 : Int32} {Q : Int32 → St → Prop} (hf : fX11_nearest N σ a1 Q) (hm0 : (11, 0) ∈ L) : Met l yX11_nearest (.code yX11_nearest cX11_nearest 3 (some .int) :: big) rmX11_nearest (va_Pc [.ref (lay 11 0), .int a1] (Bp E lay L A σ)) (va_Qi Q (Bd E lay L A) A) 0 0 A := by
  refine x_met (by decide +kernel) (Nat.le_of_ble_eq_true rfl) ?_
  intro p e s m args below meth c ls C hret hw hl
  have hx := C.1
  have hb := C.2.1
  have hl : lv_has ls 3 [(0, .ref (lay 11 0)), (1, .int a1)] := hl
  unfold fX11_nearest at hf
  refine lv_aload_n hx hb dX11_nearest_0 rfl (lv_at hl 0 rfl) ?_
  refine lv_iload_n hx hb dX11_nearest_1 rfl (lv_at hl 1 rfl) ?_
  refine x_runi hw (x_V (n := 1) (rest := []) C hw hm0 (by decide) (eX11_askedFor hf hm0) q1059 q1061 q28 q53 q1062 rfl rfl (by decide +kernel) ⟨Nat.le_of_ble_eq_true rfl, Nat.le_of_ble_eq_true rfl⟩ rfl hl.1 rfl (Nat.le_of_ble_eq_true rfl) dX11_nearest_2) (fun r2 σ1 H locs hf hw => ?_)
  try dsimp only at hf
  refine lv_istore_n (lv' := [(2, .int r2), (0, .ref (lay 11 0)), (1, .int a1)]) hx hb dX11_nearest_5 rfl hl (by decide) rfl (fun ls hl => ?_)
  refine lv_iload_n hx hb dX11_nearest_6 rfl (lv_at hl 0 rfl) ?_
  refine lv_if_ge (tgt := 12) hx hb dX11_nearest_7 (by decide) (fun c3 => ?_) (fun c3 => ?_)
  · replace hf := hf.1 c3
    refine lv_aload_n hx hb dX11_nearest_12 rfl (lv_at hl 1 rfl) ?_
    refine x_runv hw (x_V (n := 0) (rest := []) C hw hm0 (by decide) (eX11_setCounts hf hm0) q1079 q1081 q32 q53 q1082 rfl rfl (by decide +kernel) ⟨Nat.le_of_ble_eq_true rfl, Nat.le_of_ble_eq_true rfl⟩ rfl hl.1 rfl (Nat.le_of_ble_eq_true rfl) dX11_nearest_13) (fun σ4 H locs hf hw => ?_)
    try dsimp only at hf
    refine lv_aload_n hx hb dX11_nearest_16 rfl (lv_at hl 1 rfl) ?_
    refine lv_iload_n hx hb dX11_nearest_17 rfl (lv_at hl 2 rfl) ?_
    refine lv_aload_n hx hb dX11_nearest_18 rfl (lv_at hl 1 rfl) ?_
    refine x_runi hw (x_V (n := 0) (rest := [.int a1, .ref (lay 11 0)]) C hw hm0 (by decide) (eX11_allFeatures hf hm0) q1113 q1115 q35 q53 q1116 rfl rfl (by decide +kernel) ⟨Nat.le_of_ble_eq_true rfl, Nat.le_of_ble_eq_true rfl⟩ rfl hl.1 rfl (Nat.le_of_ble_eq_true rfl) dX11_nearest_19) (fun r6 σ5 H locs hf hw => ?_)
    try dsimp only at hf
    refine x_runi hw (x_V (n := 2) (rest := []) C hw hm0 (by decide) (eX11_nearestOf hf hm0) q1133 q1135 q38 q53 q1136 rfl rfl (by decide +kernel) ⟨Nat.le_of_ble_eq_true rfl, Nat.le_of_ble_eq_true rfl⟩ rfl hl.1 rfl (Nat.le_of_ble_eq_true rfl) dX11_nearest_22) (fun r8 σ7 H locs hf hw => ?_)
    try dsimp only at hf
    exact x_iret C hret hw hf dX11_nearest_25
  · replace hf := hf.2 c3
    refine lv_iload_n hx hb dX11_nearest_10 rfl (lv_at hl 0 rfl) ?_
    exact x_iret C hret hw hf dX11_nearest_11
-- X11_place
abbrev rmX11_place : Room := { frames := 4, cells := 0, slots := 0, locals := 99 }
def fX11_place_b137_65 (N : Nat) (a1 : Int32) (a2 : Int32) (Q : Int32 → St → Prop) (Kh : St → Int32 → Int32 → Int32 → Prop) (Kx146 : St → Int32 → Prop) (σ : St) (v4 : Int32) (v6 : Int32) (t0 : Int32) (t1 : Int32) : Prop := Kh σ v4 (t1 + t0) (v6 + (1 : Int32))
def fX11_place_b136_65 (N : Nat) (a1 : Int32) (a2 : Int32) (Q : Int32 → St → Prop) (Kh : St → Int32 → Int32 → Int32 → Prop) (Kx146 : St → Int32 → Prop) (σ : St) (v4 : Int32) (v6 : Int32) (t0 : Int32) : Prop := fX11_place_b137_65 N a1 a2 Q Kh Kx146 σ v4 v6 (0 : Int32) t0
def fX11_place_b132_65 (N : Nat) (a1 : Int32) (a2 : Int32) (Q : Int32 → St → Prop) (Kh : St → Int32 → Int32 → Int32 → Prop) (Kx146 : St → Int32 → Prop) (σ : St) (v4 : Int32) (v6 : Int32) (t0 : Int32) : Prop := fX11_place_b137_65 N a1 a2 Q Kh Kx146 σ v4 v6 (1 : Int32) t0
def fX11_place_b103_65 (N : Nat) (a1 : Int32) (a2 : Int32) (Q : Int32 → St → Prop) (Kh : St → Int32 → Int32 → Int32 → Prop) (Kx146 : St → Int32 → Prop) (σ : St) (v4 : Int32) (v5 : Int32) (v6 : Int32) (v7 : Int32) (t0 : Int32) : Prop := ((v7 = 0 → fX11_place_b136_65 N a1 a2 Q Kh Kx146 σ v4 v6 v5) ∧ (¬ v7 = 0 → ((t0 < v4 → fX11_place_b132_65 N a1 a2 Q Kh Kx146 σ v4 v6 v5) ∧ (¬ t0 < v4 → ((¬ t0 = v4 → fX11_place_b136_65 N a1 a2 Q Kh Kx146 σ v4 v6 v5) ∧ (t0 = v4 → ((a2 ≤ v6 → fX11_place_b136_65 N a1 a2 Q Kh Kx146 σ v4 v6 v5) ∧ (¬ a2 ≤ v6 → fX11_place_b132_65 N a1 a2 Q Kh Kx146 σ v4 v6 v5))))))))
def fX11_place_l65 (N : Nat) (a1 : Int32) (a2 : Int32) (Q : Int32 → St → Prop) (Kx146 : St → Int32 → Prop) : Nat → St → Int32 → Int32 → Int32 → Prop
  | 0, _, _, _, _ => False
  | n + 1, σ, v4, v5, v6 => (((6 : Int32) ≤ v6 → Kx146 σ v5) ∧ (¬ (6 : Int32) ≤ v6 → fX11_handOf N σ v6 a1 (fun (r19 : Int32) (σ18 : St) => ((¬ r19 = 0 → fX11_allFeatures N σ18 (fun (r22 : Int32) (σ21 : St) => fX11_farOf N σ21 ((1 : Int32) <<< (a1 &&& 31)) r19 r22 (fun (r24 : Int32) (σ23 : St) => fX11_place_b103_65 N a1 a2 Q (fun (σ : St) (w4 : Int32) (w5 : Int32) (w6 : Int32) => fX11_place_l65 N a1 a2 Q Kx146 n σ w4 w5 w6) Kx146 σ23 v4 v5 v6 r19 r24))) ∧ (r19 = 0 → fX11_place_b103_65 N a1 a2 Q (fun (σ : St) (w4 : Int32) (w5 : Int32) (w6 : Int32) => fX11_place_l65 N a1 a2 Q Kx146 n σ w4 w5 w6) Kx146 σ18 v4 v5 v6 r19 (0 : Int32))))))
set_option maxHeartbeats 4000000 in
set_option maxRecDepth 100000 in
theorem eX11_place_b137_65 {p : Program} {l : Launch} {e : Env} {s : State} {m : MethodId} {args : Array Value} {below : List Frame} {meth : Method} {c : Code} {E : EC} {lay : Nat → Nat → Nat} {L : List (Nat × Nat)} {A : Nat → Prop} (C : Cx p s m args c meth yX11_place.cls cX11_place 9 E A) (hret : meth.sig.returnType = some .int) {N : Nat} {a1 : Int32} {a2 : Int32} {Q : Int32 → St → Prop} {Kh : St → Int32 → Int32 → Int32 → Prop} {Kx146 : St → Int32 → Prop} (hm0 : (11, 0) ∈ L) (hKh : ∀ (σ : St) (w4 : Int32) (w5 : Int32) (w6 : Int32) (H : Heap) (locs : List Loc) (ls : Array Slot), Kh σ w4 w5 w6 → Wo E lay L A s σ H locs → lv_has ls 9 [(0, .ref (lay 11 0)), (1, .int a1), (2, .int a2), (4, .int w4), (5, .int w5), (6, .int w6)] → W p l e rmX11_place s m args below meth c H locs 0 0 (MQ below (va_Qi Q (Bd E lay L A) A) args s 0 0 A) (F0 m 65 ls [])) (hK146 : ∀ (σ : St) (w5 : Int32) (H : Heap) (locs : List Loc) (ls : Array Slot), Kx146 σ w5 → Wo E lay L A s σ H locs → lv_has ls 9 [(5, .int w5)] → W p l e rmX11_place s m args below meth c H locs 0 0 (MQ below (va_Qi Q (Bd E lay L A) A) args s 0 0 A) (F0 m 146 ls [])) (σ : St) (v4 : Int32) (v6 : Int32) (t0 : Int32) (t1 : Int32) (H : Heap) (locs : List Loc) (ls : Array Slot) (hf : fX11_place_b137_65 N a1 a2 Q Kh Kx146 σ v4 v6 t0 t1) (hw : Wo E lay L A s σ H locs) (hl : lv_has ls 9 [(0, .ref (lay 11 0)), (1, .int a1), (2, .int a2), (4, .int v4), (6, .int v6)]) : W p l e rmX11_place s m args below meth c H locs 0 0 (MQ below (va_Qi Q (Bd E lay L A) A) args s 0 0 A) (F0 m 137 ls [.int t0, .int t1]) := by
  have hx := C.1
  have hb := C.2.1
  unfold fX11_place_b137_65 at hf
  refine lv_iadd hx hb dX11_place_137 ?_
  refine lv_istore (lv' := [(5, .int (t1 + t0)), (0, .ref (lay 11 0)), (1, .int a1), (2, .int a2), (4, .int v4), (6, .int v6)]) hx hb dX11_place_138 hl (by decide) rfl (fun ls hl => ?_)
  refine lv_iinc (v := (v6 + (1 : Int32))) (lv' := [(6, .int (v6 + (1 : Int32))), (5, .int (t1 + t0)), (0, .ref (lay 11 0)), (1, .int a1), (2, .int a2), (4, .int v4)]) hx hb dX11_place_140 hl (k := 5) rfl (by rfl) (by decide) rfl (fun ls hl => ?_)
  refine lv_goto (tgt := 65) hx hb dX11_place_143 (by decide) ?_
  exact hKh σ v4 (t1 + t0) (v6 + (1 : Int32)) _ _ _ hf hw (lv_sub hl [2, 3, 4, 5, 1, 0] rfl)
set_option maxHeartbeats 4000000 in
set_option maxRecDepth 100000 in
theorem eX11_place_b136_65 {p : Program} {l : Launch} {e : Env} {s : State} {m : MethodId} {args : Array Value} {below : List Frame} {meth : Method} {c : Code} {E : EC} {lay : Nat → Nat → Nat} {L : List (Nat × Nat)} {A : Nat → Prop} (C : Cx p s m args c meth yX11_place.cls cX11_place 9 E A) (hret : meth.sig.returnType = some .int) {N : Nat} {a1 : Int32} {a2 : Int32} {Q : Int32 → St → Prop} {Kh : St → Int32 → Int32 → Int32 → Prop} {Kx146 : St → Int32 → Prop} (hm0 : (11, 0) ∈ L) (hKh : ∀ (σ : St) (w4 : Int32) (w5 : Int32) (w6 : Int32) (H : Heap) (locs : List Loc) (ls : Array Slot), Kh σ w4 w5 w6 → Wo E lay L A s σ H locs → lv_has ls 9 [(0, .ref (lay 11 0)), (1, .int a1), (2, .int a2), (4, .int w4), (5, .int w5), (6, .int w6)] → W p l e rmX11_place s m args below meth c H locs 0 0 (MQ below (va_Qi Q (Bd E lay L A) A) args s 0 0 A) (F0 m 65 ls [])) (hK146 : ∀ (σ : St) (w5 : Int32) (H : Heap) (locs : List Loc) (ls : Array Slot), Kx146 σ w5 → Wo E lay L A s σ H locs → lv_has ls 9 [(5, .int w5)] → W p l e rmX11_place s m args below meth c H locs 0 0 (MQ below (va_Qi Q (Bd E lay L A) A) args s 0 0 A) (F0 m 146 ls [])) (σ : St) (v4 : Int32) (v6 : Int32) (t0 : Int32) (H : Heap) (locs : List Loc) (ls : Array Slot) (hf : fX11_place_b136_65 N a1 a2 Q Kh Kx146 σ v4 v6 t0) (hw : Wo E lay L A s σ H locs) (hl : lv_has ls 9 [(0, .ref (lay 11 0)), (1, .int a1), (2, .int a2), (4, .int v4), (6, .int v6)]) : W p l e rmX11_place s m args below meth c H locs 0 0 (MQ below (va_Qi Q (Bd E lay L A) A) args s 0 0 A) (F0 m 136 ls [.int t0]) := by
  have hx := C.1
  have hb := C.2.1
  unfold fX11_place_b136_65 at hf
  refine lv_iconst (v := 0) hx hb dX11_place_136 (by decide) ?_
  exact eX11_place_b137_65 C hret hm0 hKh hK146 σ v4 v6 (0 : Int32) t0 _ _ _ hf hw (lv_sub hl [0, 1, 2, 3, 4] rfl)
set_option maxHeartbeats 4000000 in
set_option maxRecDepth 100000 in
theorem eX11_place_b132_65 {p : Program} {l : Launch} {e : Env} {s : State} {m : MethodId} {args : Array Value} {below : List Frame} {meth : Method} {c : Code} {E : EC} {lay : Nat → Nat → Nat} {L : List (Nat × Nat)} {A : Nat → Prop} (C : Cx p s m args c meth yX11_place.cls cX11_place 9 E A) (hret : meth.sig.returnType = some .int) {N : Nat} {a1 : Int32} {a2 : Int32} {Q : Int32 → St → Prop} {Kh : St → Int32 → Int32 → Int32 → Prop} {Kx146 : St → Int32 → Prop} (hm0 : (11, 0) ∈ L) (hKh : ∀ (σ : St) (w4 : Int32) (w5 : Int32) (w6 : Int32) (H : Heap) (locs : List Loc) (ls : Array Slot), Kh σ w4 w5 w6 → Wo E lay L A s σ H locs → lv_has ls 9 [(0, .ref (lay 11 0)), (1, .int a1), (2, .int a2), (4, .int w4), (5, .int w5), (6, .int w6)] → W p l e rmX11_place s m args below meth c H locs 0 0 (MQ below (va_Qi Q (Bd E lay L A) A) args s 0 0 A) (F0 m 65 ls [])) (hK146 : ∀ (σ : St) (w5 : Int32) (H : Heap) (locs : List Loc) (ls : Array Slot), Kx146 σ w5 → Wo E lay L A s σ H locs → lv_has ls 9 [(5, .int w5)] → W p l e rmX11_place s m args below meth c H locs 0 0 (MQ below (va_Qi Q (Bd E lay L A) A) args s 0 0 A) (F0 m 146 ls [])) (σ : St) (v4 : Int32) (v6 : Int32) (t0 : Int32) (H : Heap) (locs : List Loc) (ls : Array Slot) (hf : fX11_place_b132_65 N a1 a2 Q Kh Kx146 σ v4 v6 t0) (hw : Wo E lay L A s σ H locs) (hl : lv_has ls 9 [(0, .ref (lay 11 0)), (1, .int a1), (2, .int a2), (4, .int v4), (6, .int v6)]) : W p l e rmX11_place s m args below meth c H locs 0 0 (MQ below (va_Qi Q (Bd E lay L A) A) args s 0 0 A) (F0 m 132 ls [.int t0]) := by
  have hx := C.1
  have hb := C.2.1
  unfold fX11_place_b132_65 at hf
  refine lv_iconst (v := 1) hx hb dX11_place_132 (by decide) ?_
  refine lv_goto (tgt := 137) hx hb dX11_place_133 (by decide) ?_
  exact eX11_place_b137_65 C hret hm0 hKh hK146 σ v4 v6 (1 : Int32) t0 _ _ _ hf hw (lv_sub hl [0, 1, 2, 3, 4] rfl)
set_option maxHeartbeats 4000000 in
set_option maxRecDepth 100000 in
theorem eX11_place_b103_65 {p : Program} {l : Launch} {e : Env} {s : State} {m : MethodId} {args : Array Value} {below : List Frame} {meth : Method} {c : Code} {E : EC} {lay : Nat → Nat → Nat} {L : List (Nat × Nat)} {A : Nat → Prop} (C : Cx p s m args c meth yX11_place.cls cX11_place 9 E A) (hret : meth.sig.returnType = some .int) {N : Nat} {a1 : Int32} {a2 : Int32} {Q : Int32 → St → Prop} {Kh : St → Int32 → Int32 → Int32 → Prop} {Kx146 : St → Int32 → Prop} (hm0 : (11, 0) ∈ L) (hKh : ∀ (σ : St) (w4 : Int32) (w5 : Int32) (w6 : Int32) (H : Heap) (locs : List Loc) (ls : Array Slot), Kh σ w4 w5 w6 → Wo E lay L A s σ H locs → lv_has ls 9 [(0, .ref (lay 11 0)), (1, .int a1), (2, .int a2), (4, .int w4), (5, .int w5), (6, .int w6)] → W p l e rmX11_place s m args below meth c H locs 0 0 (MQ below (va_Qi Q (Bd E lay L A) A) args s 0 0 A) (F0 m 65 ls [])) (hK146 : ∀ (σ : St) (w5 : Int32) (H : Heap) (locs : List Loc) (ls : Array Slot), Kx146 σ w5 → Wo E lay L A s σ H locs → lv_has ls 9 [(5, .int w5)] → W p l e rmX11_place s m args below meth c H locs 0 0 (MQ below (va_Qi Q (Bd E lay L A) A) args s 0 0 A) (F0 m 146 ls [])) (σ : St) (v4 : Int32) (v5 : Int32) (v6 : Int32) (v7 : Int32) (t0 : Int32) (H : Heap) (locs : List Loc) (ls : Array Slot) (hf : fX11_place_b103_65 N a1 a2 Q Kh Kx146 σ v4 v5 v6 v7 t0) (hw : Wo E lay L A s σ H locs) (hl : lv_has ls 9 [(0, .ref (lay 11 0)), (1, .int a1), (2, .int a2), (4, .int v4), (5, .int v5), (6, .int v6), (7, .int v7)]) : W p l e rmX11_place s m args below meth c H locs 0 0 (MQ below (va_Qi Q (Bd E lay L A) A) args s 0 0 A) (F0 m 103 ls [.int t0]) := by
  have hx := C.1
  have hb := C.2.1
  unfold fX11_place_b103_65 at hf
  refine lv_istore (lv' := [(8, .int t0), (0, .ref (lay 11 0)), (1, .int a1), (2, .int a2), (4, .int v4), (5, .int v5), (6, .int v6), (7, .int v7)]) hx hb dX11_place_103 hl (by decide) rfl (fun ls hl => ?_)
  refine lv_iload hx hb dX11_place_105 (lv_at hl 5 rfl) ?_
  refine lv_iload hx hb dX11_place_107 (lv_at hl 7 rfl) ?_
  refine lv_if_eq (tgt := 136) hx hb dX11_place_109 (by decide) (fun c25 => ?_) (fun c25 => ?_)
  · replace hf := hf.1 c25
    exact eX11_place_b136_65 C hret hm0 hKh hK146 σ v4 v6 v5 _ _ _ hf hw (lv_sub hl [1, 2, 3, 4, 6] rfl)
  · replace hf := hf.2 c25
    refine lv_iload hx hb dX11_place_112 (lv_at hl 0 rfl) ?_
    refine lv_iload hx hb dX11_place_114 (lv_at hl 4 rfl) ?_
    refine lv_icmp_lt (tgt := 132) hx hb dX11_place_116 (by decide) (fun c26 => ?_) (fun c26 => ?_)
    · replace hf := hf.1 c26
      exact eX11_place_b132_65 C hret hm0 hKh hK146 σ v4 v6 v5 _ _ _ hf hw (lv_sub hl [1, 2, 3, 4, 6] rfl)
    · replace hf := hf.2 c26
      refine lv_iload hx hb dX11_place_119 (lv_at hl 0 rfl) ?_
      refine lv_iload hx hb dX11_place_121 (lv_at hl 4 rfl) ?_
      refine lv_icmp_ne (tgt := 136) hx hb dX11_place_123 (by decide) (fun c27 => ?_) (fun c27 => ?_)
      · replace hf := hf.1 c27
        exact eX11_place_b136_65 C hret hm0 hKh hK146 σ v4 v6 v5 _ _ _ hf hw (lv_sub hl [1, 2, 3, 4, 6] rfl)
      · replace hf := hf.2 c27
        refine lv_iload hx hb dX11_place_126 (lv_at hl 6 rfl) ?_
        refine lv_iload_n hx hb dX11_place_128 rfl (lv_at hl 3 rfl) ?_
        refine lv_icmp_ge (tgt := 136) hx hb dX11_place_129 (by decide) (fun c28 => ?_) (fun c28 => ?_)
        · replace hf := hf.1 c28
          exact eX11_place_b136_65 C hret hm0 hKh hK146 σ v4 v6 v5 _ _ _ hf hw (lv_sub hl [1, 2, 3, 4, 6] rfl)
        · replace hf := hf.2 c28
          exact eX11_place_b132_65 C hret hm0 hKh hK146 σ v4 v6 v5 _ _ _ hf hw (lv_sub hl [1, 2, 3, 4, 6] rfl)
set_option maxHeartbeats 4000000 in
set_option maxRecDepth 100000 in
theorem eX11_place_l65 {p : Program} {l : Launch} {e : Env} {s : State} {m : MethodId} {args : Array Value} {below : List Frame} {meth : Method} {c : Code} {E : EC} {lay : Nat → Nat → Nat} {L : List (Nat × Nat)} {A : Nat → Prop} (C : Cx p s m args c meth yX11_place.cls cX11_place 9 E A) (hret : meth.sig.returnType = some .int) {N : Nat} {a1 : Int32} {a2 : Int32} {Q : Int32 → St → Prop} {Kx146 : St → Int32 → Prop} (hm0 : (11, 0) ∈ L) (hK146 : ∀ (σ : St) (w5 : Int32) (H : Heap) (locs : List Loc) (ls : Array Slot), Kx146 σ w5 → Wo E lay L A s σ H locs → lv_has ls 9 [(5, .int w5)] → W p l e rmX11_place s m args below meth c H locs 0 0 (MQ below (va_Qi Q (Bd E lay L A) A) args s 0 0 A) (F0 m 146 ls [])) : ∀ (n : Nat) (σ : St) (v4 : Int32) (v5 : Int32) (v6 : Int32) (H : Heap) (locs : List Loc) (ls : Array Slot), fX11_place_l65 N a1 a2 Q Kx146 n σ v4 v5 v6 → Wo E lay L A s σ H locs → lv_has ls 9 [(0, .ref (lay 11 0)), (1, .int a1), (2, .int a2), (4, .int v4), (5, .int v5), (6, .int v6)] → W p l e rmX11_place s m args below meth c H locs 0 0 (MQ below (va_Qi Q (Bd E lay L A) A) args s 0 0 A) (F0 m 65 ls []) := by
  have hx := C.1
  have hb := C.2.1
  intro n
  induction n with
  | zero => intro σ v4 v5 v6 H locs ls hf; exact hf.elim
  | succ n ih =>
    intro σ v4 v5 v6 H locs ls hf hw hl
    rw [fX11_place_l65] at hf
    refine lv_iload hx hb dX11_place_65 (lv_at hl 5 rfl) ?_
    refine lv_bipush (v := 6) hx hb dX11_place_67 (by decide) ?_
    refine lv_icmp_ge (tgt := 146) hx hb dX11_place_69 (by decide) (fun c17 => ?_) (fun c17 => ?_)
    · replace hf := hf.1 c17
      exact hK146 σ v5 _ _ _ hf hw (lv_sub hl [4] rfl)
    · replace hf := hf.2 c17
      refine lv_aload_n hx hb dX11_place_72 rfl (lv_at hl 0 rfl) ?_
      refine lv_iload hx hb dX11_place_73 (lv_at hl 5 rfl) ?_
      refine lv_iload_n hx hb dX11_place_75 rfl (lv_at hl 1 rfl) ?_
      refine x_runi hw (x_V (n := 2) (rest := []) C hw hm0 (by decide) (eX11_handOf hf hm0) q1097 q1099 q34 q53 q1100 rfl rfl (by decide +kernel) ⟨Nat.le_of_ble_eq_true rfl, Nat.le_of_ble_eq_true rfl⟩ rfl hl.1 rfl (Nat.le_of_ble_eq_true rfl) dX11_place_76) (fun r19 σ18 H locs hf hw => ?_)
      try dsimp only at hf
      refine lv_istore (lv' := [(7, .int r19), (0, .ref (lay 11 0)), (1, .int a1), (2, .int a2), (4, .int v4), (5, .int v5), (6, .int v6)]) hx hb dX11_place_79 hl (by decide) rfl (fun ls hl => ?_)
      refine lv_iload hx hb dX11_place_81 (lv_at hl 0 rfl) ?_
      refine lv_if_ne (tgt := 90) hx hb dX11_place_83 (by decide) (fun c20 => ?_) (fun c20 => ?_)
      · replace hf := hf.1 c20
        refine lv_aload_n hx hb dX11_place_90 rfl (lv_at hl 1 rfl) ?_
        refine lv_iconst (v := 1) hx hb dX11_place_91 (by decide) ?_
        refine lv_iload_n hx hb dX11_place_92 rfl (lv_at hl 2 rfl) ?_
        refine lv_ishl hx hb dX11_place_93 ?_
        refine lv_iload hx hb dX11_place_94 (lv_at hl 0 rfl) ?_
        refine lv_aload_n hx hb dX11_place_96 rfl (lv_at hl 1 rfl) ?_
        refine x_runi hw (x_V (n := 0) (rest := [.int r19, .int ((1 : Int32) <<< (a1 &&& 31)), .ref (lay 11 0)]) C hw hm0 (by decide) (eX11_allFeatures hf hm0) q1113 q1115 q35 q53 q1116 rfl rfl (by decide +kernel) ⟨Nat.le_of_ble_eq_true rfl, Nat.le_of_ble_eq_true rfl⟩ rfl hl.1 rfl (Nat.le_of_ble_eq_true rfl) dX11_place_97) (fun r22 σ21 H locs hf hw => ?_)
        try dsimp only at hf
        refine x_runi hw (x_V (n := 3) (rest := []) C hw hm0 (by decide) (eX11_farOf hf hm0) q1117 q1119 q36 q53 q1120 rfl rfl (by decide +kernel) ⟨Nat.le_of_ble_eq_true rfl, Nat.le_of_ble_eq_true rfl⟩ rfl hl.1 rfl (Nat.le_of_ble_eq_true rfl) dX11_place_100) (fun r24 σ23 H locs hf hw => ?_)
        try dsimp only at hf
        exact eX11_place_b103_65 C hret hm0 ih hK146 σ23 v4 v5 v6 r19 r24 _ _ _ hf hw (lv_sub hl [1, 2, 3, 4, 5, 6, 0] rfl)
      · replace hf := hf.2 c20
        refine lv_iconst (v := 0) hx hb dX11_place_86 (by decide) ?_
        refine lv_goto (tgt := 103) hx hb dX11_place_87 (by decide) ?_
        exact eX11_place_b103_65 C hret hm0 ih hK146 σ18 v4 v5 v6 r19 (0 : Int32) _ _ _ hf hw (lv_sub hl [1, 2, 3, 4, 5, 6, 0] rfl)
def fX11_place (N : Nat) (σ : St) (a1 : Int32) (a2 : Int32) (Q : Int32 → St → Prop) : Prop := fX11_isWriter N σ a2 (fun (r2 : Int32) (σ1 : St) => ((¬ r2 = 0 → fX11_askedFor N σ1 a1 (fun (r5 : Int32) (σ4 : St) => ((0 ≤ r5 → fX11_handOf N σ4 a2 a1 (fun (r8 : Int32) (σ7 : St) => ((¬ r8 = 0 → fX11_setCounts N σ7 (fun (σ10 : St) => fX11_handOf N σ10 a2 a1 (fun (r12 : Int32) (σ11 : St) => fX11_allFeatures N σ11 (fun (r14 : Int32) (σ13 : St) => fX11_farOf N σ13 ((1 : Int32) <<< (a1 &&& 31)) r12 r14 (fun (r16 : Int32) (σ15 : St) => fX11_place_l65 N a1 a2 Q (fun (σ29 : St) (u146_5 : Int32) => Q u146_5 σ29) N σ15 r16 (0 : Int32) (0 : Int32)))))) ∧ (r8 = 0 → fX11_meets N σ7 (4 : Int32) (fun (r31 : Int32) (σ30 : St) => Q r31 σ30))))) ∧ (¬ 0 ≤ r5 → Q r5 σ4)))) ∧ (r2 = 0 → Q (-1 : Int32) σ1)))
set_option maxHeartbeats 4000000 in
set_option maxRecDepth 100000 in
theorem eX11_place {l : Launch} {E : EC} {lay : Nat → Nat → Nat} {L : List (Nat × Nat)} {A : Nat → Prop} {N : Nat} {σ : St} {a1 : Int32} {a2 : Int32} {Q : Int32 → St → Prop} (hf : fX11_place N σ a1 a2 Q) (hm0 : (11, 0) ∈ L) : Met l yX11_place (.code yX11_place cX11_place 9 (some .int) :: big) rmX11_place (va_Pc [.ref (lay 11 0), .int a1, .int a2] (Bp E lay L A σ)) (va_Qi Q (Bd E lay L A) A) 0 0 A := by
  refine x_met (by decide +kernel) (Nat.le_of_ble_eq_true rfl) ?_
  intro p e s m args below meth c ls C hret hw hl
  have hx := C.1
  have hb := C.2.1
  have hl : lv_has ls 9 [(0, .ref (lay 11 0)), (1, .int a1), (2, .int a2)] := hl
  unfold fX11_place at hf
  refine lv_iload_n hx hb dX11_place_0 rfl (lv_at hl 2 rfl) ?_
  refine x_runi hw (x_S (n := 1) (rest := []) C hw (eX11_isWriter hf) q1094 q1095 q53 q1096 rfl rfl (by decide +kernel) ⟨Nat.le_of_ble_eq_true rfl, Nat.le_of_ble_eq_true rfl⟩ rfl hl.1 rfl (Nat.le_of_ble_eq_true rfl) dX11_place_1) (fun r2 σ1 H locs hf hw => ?_)
  have hzr2 := hf.2
  replace hf := hf.1
  try dsimp only at hf
  refine lv_if_ne (tgt := 9) hx hb dX11_place_4 (by decide) (fun c3 => ?_) (fun c3 => ?_)
  · replace hf := hf.1 c3
    refine lv_aload_n hx hb dX11_place_9 rfl (lv_at hl 0 rfl) ?_
    refine lv_iload_n hx hb dX11_place_10 rfl (lv_at hl 1 rfl) ?_
    refine x_runi hw (x_V (n := 1) (rest := []) C hw hm0 (by decide) (eX11_askedFor hf hm0) q1059 q1061 q28 q53 q1062 rfl rfl (by decide +kernel) ⟨Nat.le_of_ble_eq_true rfl, Nat.le_of_ble_eq_true rfl⟩ rfl hl.1 rfl (Nat.le_of_ble_eq_true rfl) dX11_place_11) (fun r5 σ4 H locs hf hw => ?_)
    try dsimp only at hf
    refine lv_istore_n (lv' := [(3, .int r5), (0, .ref (lay 11 0)), (1, .int a1), (2, .int a2)]) hx hb dX11_place_14 rfl hl (by decide) rfl (fun ls hl => ?_)
    refine lv_iload_n hx hb dX11_place_15 rfl (lv_at hl 0 rfl) ?_
    refine lv_if_ge (tgt := 21) hx hb dX11_place_16 (by decide) (fun c6 => ?_) (fun c6 => ?_)
    · replace hf := hf.1 c6
      refine lv_aload_n hx hb dX11_place_21 rfl (lv_at hl 1 rfl) ?_
      refine lv_iload_n hx hb dX11_place_22 rfl (lv_at hl 3 rfl) ?_
      refine lv_iload_n hx hb dX11_place_23 rfl (lv_at hl 2 rfl) ?_
      refine x_runi hw (x_V (n := 2) (rest := []) C hw hm0 (by decide) (eX11_handOf hf hm0) q1097 q1099 q34 q53 q1100 rfl rfl (by decide +kernel) ⟨Nat.le_of_ble_eq_true rfl, Nat.le_of_ble_eq_true rfl⟩ rfl hl.1 rfl (Nat.le_of_ble_eq_true rfl) dX11_place_24) (fun r8 σ7 H locs hf hw => ?_)
      try dsimp only at hf
      refine lv_if_ne (tgt := 36) hx hb dX11_place_27 (by decide) (fun c9 => ?_) (fun c9 => ?_)
      · replace hf := hf.1 c9
        refine lv_aload_n hx hb dX11_place_36 rfl (lv_at hl 1 rfl) ?_
        refine x_runv hw (x_V (n := 0) (rest := []) C hw hm0 (by decide) (eX11_setCounts hf hm0) q1079 q1081 q32 q53 q1082 rfl rfl (by decide +kernel) ⟨Nat.le_of_ble_eq_true rfl, Nat.le_of_ble_eq_true rfl⟩ rfl hl.1 rfl (Nat.le_of_ble_eq_true rfl) dX11_place_37) (fun σ10 H locs hf hw => ?_)
        try dsimp only at hf
        refine lv_aload_n hx hb dX11_place_40 rfl (lv_at hl 1 rfl) ?_
        refine lv_iconst (v := 1) hx hb dX11_place_41 (by decide) ?_
        refine lv_iload_n hx hb dX11_place_42 rfl (lv_at hl 2 rfl) ?_
        refine lv_ishl hx hb dX11_place_43 ?_
        refine lv_aload_n hx hb dX11_place_44 rfl (lv_at hl 1 rfl) ?_
        refine lv_iload_n hx hb dX11_place_45 rfl (lv_at hl 3 rfl) ?_
        refine lv_iload_n hx hb dX11_place_46 rfl (lv_at hl 2 rfl) ?_
        refine x_runi hw (x_V (n := 2) (rest := [.int ((1 : Int32) <<< (a1 &&& 31)), .ref (lay 11 0)]) C hw hm0 (by decide) (eX11_handOf hf hm0) q1097 q1099 q34 q53 q1100 rfl rfl (by decide +kernel) ⟨Nat.le_of_ble_eq_true rfl, Nat.le_of_ble_eq_true rfl⟩ rfl hl.1 rfl (Nat.le_of_ble_eq_true rfl) dX11_place_47) (fun r12 σ11 H locs hf hw => ?_)
        try dsimp only at hf
        refine lv_aload_n hx hb dX11_place_50 rfl (lv_at hl 1 rfl) ?_
        refine x_runi hw (x_V (n := 0) (rest := [.int r12, .int ((1 : Int32) <<< (a1 &&& 31)), .ref (lay 11 0)]) C hw hm0 (by decide) (eX11_allFeatures hf hm0) q1113 q1115 q35 q53 q1116 rfl rfl (by decide +kernel) ⟨Nat.le_of_ble_eq_true rfl, Nat.le_of_ble_eq_true rfl⟩ rfl hl.1 rfl (Nat.le_of_ble_eq_true rfl) dX11_place_51) (fun r14 σ13 H locs hf hw => ?_)
        try dsimp only at hf
        refine x_runi hw (x_V (n := 3) (rest := []) C hw hm0 (by decide) (eX11_farOf hf hm0) q1117 q1119 q36 q53 q1120 rfl rfl (by decide +kernel) ⟨Nat.le_of_ble_eq_true rfl, Nat.le_of_ble_eq_true rfl⟩ rfl hl.1 rfl (Nat.le_of_ble_eq_true rfl) dX11_place_54) (fun r16 σ15 H locs hf hw => ?_)
        try dsimp only at hf
        refine lv_istore (lv' := [(4, .int r16), (3, .int r5), (0, .ref (lay 11 0)), (1, .int a1), (2, .int a2)]) hx hb dX11_place_57 hl (by decide) rfl (fun ls hl => ?_)
        refine lv_iconst (v := 0) hx hb dX11_place_59 (by decide) ?_
        refine lv_istore (lv' := [(5, .int (0 : Int32)), (4, .int r16), (3, .int r5), (0, .ref (lay 11 0)), (1, .int a1), (2, .int a2)]) hx hb dX11_place_60 hl (by decide) rfl (fun ls hl => ?_)
        refine lv_iconst (v := 0) hx hb dX11_place_62 (by decide) ?_
        refine lv_istore (lv' := [(6, .int (0 : Int32)), (5, .int (0 : Int32)), (4, .int r16), (3, .int r5), (0, .ref (lay 11 0)), (1, .int a1), (2, .int a2)]) hx hb dX11_place_63 hl (by decide) rfl (fun ls hl => ?_)
        refine eX11_place_l65 C hret hm0 ?_ N σ15 r16 (0 : Int32) (0 : Int32) _ _ _ hf hw (lv_sub hl [4, 5, 6, 2, 1, 0] rfl)
        · intro σ29 u146_5 H locs ls hf hw hl
          refine lv_iload hx hb dX11_place_146 (lv_at hl 0 rfl) ?_
          exact x_iret C hret hw hf dX11_place_148
      · replace hf := hf.2 c9
        refine lv_aload_n hx hb dX11_place_30 rfl (lv_at hl 1 rfl) ?_
        refine lv_iconst (v := 4) hx hb dX11_place_31 (by decide) ?_
        refine x_runi hw (x_V (n := 1) (rest := []) C hw hm0 (by decide) (eX11_meets hf hm0) q987 q989 q22 q53 q990 rfl rfl (by decide +kernel) ⟨Nat.le_of_ble_eq_true rfl, Nat.le_of_ble_eq_true rfl⟩ rfl hl.1 rfl (Nat.le_of_ble_eq_true rfl) dX11_place_32) (fun r31 σ30 H locs hf hw => ?_)
        try dsimp only at hf
        exact x_iret C hret hw hf dX11_place_35
    · replace hf := hf.2 c6
      refine lv_iload_n hx hb dX11_place_19 rfl (lv_at hl 0 rfl) ?_
      exact x_iret C hret hw hf dX11_place_20
  · replace hf := hf.2 c3
    refine lv_iconst (v := (-1)) hx hb dX11_place_7 (by decide) ?_
    exact x_iret C hret hw hf dX11_place_8
-- X11_trial
abbrev rmX11_trial : Room := { frames := 4, cells := 0, slots := 0, locals := 99 }
def fX11_trial_b93_19 (N : Nat) (a1 : Int32) (Q : Int32 → St → Prop) (Kh : St → Int32 → Int32 → Prop) (Kx99 : St → Int32 → Prop) (σ : St) (v2 : Int32) (v3 : Int32) : Prop := Kh σ v2 (v3 + (1 : Int32))
def fX11_trial_b91_19 (N : Nat) (a1 : Int32) (Q : Int32 → St → Prop) (Kh : St → Int32 → Int32 → Prop) (Kx99 : St → Int32 → Prop) (σ : St) (v3 : Int32) (t0 : Int32) (t1 : Int32) : Prop := fX11_trial_b93_19 N a1 Q Kh Kx99 σ (t1 + t0) v3
def fX11_trial_b83_19 (N : Nat) (a1 : Int32) (Q : Int32 → St → Prop) (Kh : St → Int32 → Int32 → Prop) (Kx99 : St → Int32 → Prop) (σ : St) (v3 : Int32) (t0 : Int32) (t1 : Int32) (t2 : Int32) : Prop := ((¬ t1 = t0 → fX11_trial_b91_19 N a1 Q Kh Kx99 σ v3 (0 : Int32) t2) ∧ (t1 = t0 → fX11_trial_b91_19 N a1 Q Kh Kx99 σ v3 (1 : Int32) t2))
def fX11_trial_l19 (N : Nat) (a1 : Int32) (Q : Int32 → St → Prop) (Kx99 : St → Int32 → Prop) : Nat → St → Int32 → Int32 → Prop
  | 0, _, _, _ => False
  | n + 1, σ, v2, v3 => (((sF σ 11 0 6) ≤ v3 → Kx99 σ v2) ∧ (¬ (sF σ 11 0 6) ≤ v3 → (vp_in v3 15 ∧ ((¬ (sA σ 70 0 (v3).toNatClampNeg) = 0 → fX11_trial_b93_19 N a1 Q (fun (σ : St) (w2 : Int32) (w3 : Int32) => fX11_trial_l19 N a1 Q Kx99 n σ w2 w3) Kx99 σ v2 v3) ∧ ((sA σ 70 0 (v3).toNatClampNeg) = 0 → (vp_in v3 15 ∧ (((sA σ 68 0 (v3).toNatClampNeg) < 0 → fX11_trial_b93_19 N a1 Q (fun (σ : St) (w2 : Int32) (w3 : Int32) => fX11_trial_l19 N a1 Q Kx99 n σ w2 w3) Kx99 σ v2 v3) ∧ (¬ (sA σ 68 0 (v3).toNatClampNeg) < 0 → fX11_allFeatures N σ (fun (r11 : Int32) (σ10 : St) => fX11_nearestOf N σ10 v3 r11 (fun (r13 : Int32) (σ12 : St) => ((0 ≤ r13 → (vp_in v3 15 ∧ ((¬ r13 = (sA σ12 68 0 (v3).toNatClampNeg) → fX11_trial_b83_19 N a1 Q (fun (σ : St) (w2 : Int32) (w3 : Int32) => fX11_trial_l19 N a1 Q Kx99 n σ w2 w3) Kx99 σ12 v3 (1 : Int32) a1 v2) ∧ (r13 = (sA σ12 68 0 (v3).toNatClampNeg) → fX11_trial_b83_19 N a1 Q (fun (σ : St) (w2 : Int32) (w3 : Int32) => fX11_trial_l19 N a1 Q Kx99 n σ w2 w3) Kx99 σ12 v3 (0 : Int32) a1 v2)))) ∧ (¬ 0 ≤ r13 → fX11_trial_b83_19 N a1 Q (fun (σ : St) (w2 : Int32) (w3 : Int32) => fX11_trial_l19 N a1 Q Kx99 n σ w2 w3) Kx99 σ12 v3 (2 : Int32) a1 v2))))))))))))
set_option maxHeartbeats 4000000 in
set_option maxRecDepth 100000 in
theorem eX11_trial_b93_19 {p : Program} {l : Launch} {e : Env} {s : State} {m : MethodId} {args : Array Value} {below : List Frame} {meth : Method} {c : Code} {E : EC} {lay : Nat → Nat → Nat} {L : List (Nat × Nat)} {A : Nat → Prop} (C : Cx p s m args c meth yX11_trial.cls cX11_trial 5 E A) (hret : meth.sig.returnType = some .int) {N : Nat} {a1 : Int32} {Q : Int32 → St → Prop} {Kh : St → Int32 → Int32 → Prop} {Kx99 : St → Int32 → Prop} (hm0 : (11, 0) ∈ L) (hKh : ∀ (σ : St) (w2 : Int32) (w3 : Int32) (H : Heap) (locs : List Loc) (ls : Array Slot), Kh σ w2 w3 → Wo E lay L A s σ H locs → lv_has ls 5 [(0, .ref (lay 11 0)), (1, .int a1), (2, .int w2), (3, .int w3)] → W p l e rmX11_trial s m args below meth c H locs 0 0 (MQ below (va_Qi Q (Bd E lay L A) A) args s 0 0 A) (F0 m 19 ls [])) (hK99 : ∀ (σ : St) (w2 : Int32) (H : Heap) (locs : List Loc) (ls : Array Slot), Kx99 σ w2 → Wo E lay L A s σ H locs → lv_has ls 5 [(2, .int w2)] → W p l e rmX11_trial s m args below meth c H locs 0 0 (MQ below (va_Qi Q (Bd E lay L A) A) args s 0 0 A) (F0 m 99 ls [])) (σ : St) (v2 : Int32) (v3 : Int32) (H : Heap) (locs : List Loc) (ls : Array Slot) (hf : fX11_trial_b93_19 N a1 Q Kh Kx99 σ v2 v3) (hw : Wo E lay L A s σ H locs) (hl : lv_has ls 5 [(0, .ref (lay 11 0)), (1, .int a1), (2, .int v2), (3, .int v3)]) : W p l e rmX11_trial s m args below meth c H locs 0 0 (MQ below (va_Qi Q (Bd E lay L A) A) args s 0 0 A) (F0 m 93 ls []) := by
  have hx := C.1
  have hb := C.2.1
  unfold fX11_trial_b93_19 at hf
  refine lv_iinc (v := (v3 + (1 : Int32))) (lv' := [(3, .int (v3 + (1 : Int32))), (0, .ref (lay 11 0)), (1, .int a1), (2, .int v2)]) hx hb dX11_trial_93 hl (k := 3) rfl (by rfl) (by decide) rfl (fun ls hl => ?_)
  refine lv_goto (tgt := 19) hx hb dX11_trial_96 (by decide) ?_
  exact hKh σ v2 (v3 + (1 : Int32)) _ _ _ hf hw (lv_sub hl [1, 2, 3, 0] rfl)
set_option maxHeartbeats 4000000 in
set_option maxRecDepth 100000 in
theorem eX11_trial_b91_19 {p : Program} {l : Launch} {e : Env} {s : State} {m : MethodId} {args : Array Value} {below : List Frame} {meth : Method} {c : Code} {E : EC} {lay : Nat → Nat → Nat} {L : List (Nat × Nat)} {A : Nat → Prop} (C : Cx p s m args c meth yX11_trial.cls cX11_trial 5 E A) (hret : meth.sig.returnType = some .int) {N : Nat} {a1 : Int32} {Q : Int32 → St → Prop} {Kh : St → Int32 → Int32 → Prop} {Kx99 : St → Int32 → Prop} (hm0 : (11, 0) ∈ L) (hKh : ∀ (σ : St) (w2 : Int32) (w3 : Int32) (H : Heap) (locs : List Loc) (ls : Array Slot), Kh σ w2 w3 → Wo E lay L A s σ H locs → lv_has ls 5 [(0, .ref (lay 11 0)), (1, .int a1), (2, .int w2), (3, .int w3)] → W p l e rmX11_trial s m args below meth c H locs 0 0 (MQ below (va_Qi Q (Bd E lay L A) A) args s 0 0 A) (F0 m 19 ls [])) (hK99 : ∀ (σ : St) (w2 : Int32) (H : Heap) (locs : List Loc) (ls : Array Slot), Kx99 σ w2 → Wo E lay L A s σ H locs → lv_has ls 5 [(2, .int w2)] → W p l e rmX11_trial s m args below meth c H locs 0 0 (MQ below (va_Qi Q (Bd E lay L A) A) args s 0 0 A) (F0 m 99 ls [])) (σ : St) (v3 : Int32) (t0 : Int32) (t1 : Int32) (H : Heap) (locs : List Loc) (ls : Array Slot) (hf : fX11_trial_b91_19 N a1 Q Kh Kx99 σ v3 t0 t1) (hw : Wo E lay L A s σ H locs) (hl : lv_has ls 5 [(0, .ref (lay 11 0)), (1, .int a1), (3, .int v3)]) : W p l e rmX11_trial s m args below meth c H locs 0 0 (MQ below (va_Qi Q (Bd E lay L A) A) args s 0 0 A) (F0 m 91 ls [.int t0, .int t1]) := by
  have hx := C.1
  have hb := C.2.1
  unfold fX11_trial_b91_19 at hf
  refine lv_iadd hx hb dX11_trial_91 ?_
  refine lv_istore_n (lv' := [(2, .int (t1 + t0)), (0, .ref (lay 11 0)), (1, .int a1), (3, .int v3)]) hx hb dX11_trial_92 rfl hl (by decide) rfl (fun ls hl => ?_)
  exact eX11_trial_b93_19 C hret hm0 hKh hK99 σ (t1 + t0) v3 _ _ _ hf hw (lv_sub hl [1, 2, 0, 3] rfl)
set_option maxHeartbeats 4000000 in
set_option maxRecDepth 100000 in
theorem eX11_trial_b83_19 {p : Program} {l : Launch} {e : Env} {s : State} {m : MethodId} {args : Array Value} {below : List Frame} {meth : Method} {c : Code} {E : EC} {lay : Nat → Nat → Nat} {L : List (Nat × Nat)} {A : Nat → Prop} (C : Cx p s m args c meth yX11_trial.cls cX11_trial 5 E A) (hret : meth.sig.returnType = some .int) {N : Nat} {a1 : Int32} {Q : Int32 → St → Prop} {Kh : St → Int32 → Int32 → Prop} {Kx99 : St → Int32 → Prop} (hm0 : (11, 0) ∈ L) (hKh : ∀ (σ : St) (w2 : Int32) (w3 : Int32) (H : Heap) (locs : List Loc) (ls : Array Slot), Kh σ w2 w3 → Wo E lay L A s σ H locs → lv_has ls 5 [(0, .ref (lay 11 0)), (1, .int a1), (2, .int w2), (3, .int w3)] → W p l e rmX11_trial s m args below meth c H locs 0 0 (MQ below (va_Qi Q (Bd E lay L A) A) args s 0 0 A) (F0 m 19 ls [])) (hK99 : ∀ (σ : St) (w2 : Int32) (H : Heap) (locs : List Loc) (ls : Array Slot), Kx99 σ w2 → Wo E lay L A s σ H locs → lv_has ls 5 [(2, .int w2)] → W p l e rmX11_trial s m args below meth c H locs 0 0 (MQ below (va_Qi Q (Bd E lay L A) A) args s 0 0 A) (F0 m 99 ls [])) (σ : St) (v3 : Int32) (t0 : Int32) (t1 : Int32) (t2 : Int32) (H : Heap) (locs : List Loc) (ls : Array Slot) (hf : fX11_trial_b83_19 N a1 Q Kh Kx99 σ v3 t0 t1 t2) (hw : Wo E lay L A s σ H locs) (hl : lv_has ls 5 [(0, .ref (lay 11 0)), (1, .int a1), (3, .int v3)]) : W p l e rmX11_trial s m args below meth c H locs 0 0 (MQ below (va_Qi Q (Bd E lay L A) A) args s 0 0 A) (F0 m 83 ls [.int t0, .int t1, .int t2]) := by
  have hx := C.1
  have hb := C.2.1
  unfold fX11_trial_b83_19 at hf
  refine lv_icmp_ne (tgt := 90) hx hb dX11_trial_83 (by decide) (fun c17 => ?_) (fun c17 => ?_)
  · replace hf := hf.1 c17
    refine lv_iconst (v := 0) hx hb dX11_trial_90 (by decide) ?_
    exact eX11_trial_b91_19 C hret hm0 hKh hK99 σ v3 (0 : Int32) t2 _ _ _ hf hw (lv_sub hl [0, 1, 2] rfl)
  · replace hf := hf.2 c17
    refine lv_iconst (v := 1) hx hb dX11_trial_86 (by decide) ?_
    refine lv_goto (tgt := 91) hx hb dX11_trial_87 (by decide) ?_
    exact eX11_trial_b91_19 C hret hm0 hKh hK99 σ v3 (1 : Int32) t2 _ _ _ hf hw (lv_sub hl [0, 1, 2] rfl)
set_option maxHeartbeats 4000000 in
set_option maxRecDepth 100000 in
theorem eX11_trial_l19 {p : Program} {l : Launch} {e : Env} {s : State} {m : MethodId} {args : Array Value} {below : List Frame} {meth : Method} {c : Code} {E : EC} {lay : Nat → Nat → Nat} {L : List (Nat × Nat)} {A : Nat → Prop} (C : Cx p s m args c meth yX11_trial.cls cX11_trial 5 E A) (hret : meth.sig.returnType = some .int) {N : Nat} {a1 : Int32} {Q : Int32 → St → Prop} {Kx99 : St → Int32 → Prop} (hm0 : (11, 0) ∈ L) (hK99 : ∀ (σ : St) (w2 : Int32) (H : Heap) (locs : List Loc) (ls : Array Slot), Kx99 σ w2 → Wo E lay L A s σ H locs → lv_has ls 5 [(2, .int w2)] → W p l e rmX11_trial s m args below meth c H locs 0 0 (MQ below (va_Qi Q (Bd E lay L A) A) args s 0 0 A) (F0 m 99 ls [])) : ∀ (n : Nat) (σ : St) (v2 : Int32) (v3 : Int32) (H : Heap) (locs : List Loc) (ls : Array Slot), fX11_trial_l19 N a1 Q Kx99 n σ v2 v3 → Wo E lay L A s σ H locs → lv_has ls 5 [(0, .ref (lay 11 0)), (1, .int a1), (2, .int v2), (3, .int v3)] → W p l e rmX11_trial s m args below meth c H locs 0 0 (MQ below (va_Qi Q (Bd E lay L A) A) args s 0 0 A) (F0 m 19 ls []) := by
  have hx := C.1
  have hb := C.2.1
  intro n
  induction n with
  | zero => intro σ v2 v3 H locs ls hf; exact hf.elim
  | succ n ih =>
    intro σ v2 v3 H locs ls hf hw hl
    rw [fX11_trial_l19] at hf
    refine lv_iload_n hx hb dX11_trial_19 rfl (lv_at hl 3 rfl) ?_
    refine lv_aload_n hx hb dX11_trial_20 rfl (lv_at hl 0 rfl) ?_
    refine x_get (v := .int (sF σ 11 0 6)) (j := 6) C hw hm0 rfl (by decide) (by decide) rfl q886 dX11_trial_21 ?_
    refine lv_icmp_ge (tgt := 99) hx hb dX11_trial_24 (by decide) (fun c5 => ?_) (fun c5 => ?_)
    · replace hf := hf.1 c5
      exact hK99 σ v2 _ _ _ hf hw (lv_sub hl [2] rfl)
    · replace hf := hf.2 c5
      refine lv_aload_n hx hb dX11_trial_27 rfl (lv_at hl 0 rfl) ?_
      have hm_6 : (70, 0) ∈ L := hw.2.2.2.1 11 0 hm0 10 (by decide) (by decide) rfl
      refine x_get (v := .ref (lay 70 0)) (j := 10) C hw hm0 rfl (by decide) (by decide) rfl q890 dX11_trial_28 ?_
      refine lv_iload_n hx hb dX11_trial_31 rfl (lv_at hl 3 rfl) ?_
      refine x_zald C hw hm_6 (by decide) rfl hf.1 dX11_trial_32 ?_
      replace hf := hf.2
      refine lv_if_ne (tgt := 93) hx hb dX11_trial_33 (by decide) (fun c7 => ?_) (fun c7 => ?_)
      · replace hf := hf.1 c7
        exact eX11_trial_b93_19 C hret hm0 ih hK99 σ v2 v3 _ _ _ hf hw (lv_sub hl [0, 1, 2, 3] rfl)
      · replace hf := hf.2 c7
        refine lv_aload_n hx hb dX11_trial_36 rfl (lv_at hl 0 rfl) ?_
        have hm_8 : (68, 0) ∈ L := hw.2.2.2.1 11 0 hm0 8 (by decide) (by decide) rfl
        refine x_get (v := .ref (lay 68 0)) (j := 8) C hw hm0 rfl (by decide) (by decide) rfl q888 dX11_trial_37 ?_
        refine lv_iload_n hx hb dX11_trial_40 rfl (lv_at hl 3 rfl) ?_
        refine x_iald C hw hm_8 (by decide) rfl hf.1 dX11_trial_41 ?_
        replace hf := hf.2
        refine lv_if_lt (tgt := 93) hx hb dX11_trial_42 (by decide) (fun c9 => ?_) (fun c9 => ?_)
        · replace hf := hf.1 c9
          exact eX11_trial_b93_19 C hret hm0 ih hK99 σ v2 v3 _ _ _ hf hw (lv_sub hl [0, 1, 2, 3] rfl)
        · replace hf := hf.2 c9
          refine lv_aload_n hx hb dX11_trial_45 rfl (lv_at hl 0 rfl) ?_
          refine lv_iload_n hx hb dX11_trial_46 rfl (lv_at hl 3 rfl) ?_
          refine lv_aload_n hx hb dX11_trial_47 rfl (lv_at hl 0 rfl) ?_
          refine x_runi hw (x_V (n := 0) (rest := [.int v3, .ref (lay 11 0)]) C hw hm0 (by decide) (eX11_allFeatures hf hm0) q1113 q1115 q35 q53 q1116 rfl rfl (by decide +kernel) ⟨Nat.le_of_ble_eq_true rfl, Nat.le_of_ble_eq_true rfl⟩ rfl hl.1 rfl (Nat.le_of_ble_eq_true rfl) dX11_trial_48) (fun r11 σ10 H locs hf hw => ?_)
          try dsimp only at hf
          refine x_runi hw (x_V (n := 2) (rest := []) C hw hm0 (by decide) (eX11_nearestOf hf hm0) q1133 q1135 q38 q53 q1136 rfl rfl (by decide +kernel) ⟨Nat.le_of_ble_eq_true rfl, Nat.le_of_ble_eq_true rfl⟩ rfl hl.1 rfl (Nat.le_of_ble_eq_true rfl) dX11_trial_51) (fun r13 σ12 H locs hf hw => ?_)
          try dsimp only at hf
          refine lv_istore (lv' := [(4, .int r13), (0, .ref (lay 11 0)), (1, .int a1), (2, .int v2), (3, .int v3)]) hx hb dX11_trial_54 hl (by decide) rfl (fun ls hl => ?_)
          refine lv_iload_n hx hb dX11_trial_56 rfl (lv_at hl 3 rfl) ?_
          refine lv_iload_n hx hb dX11_trial_57 rfl (lv_at hl 2 rfl) ?_
          refine lv_iload hx hb dX11_trial_58 (lv_at hl 0 rfl) ?_
          refine lv_if_ge (tgt := 67) hx hb dX11_trial_60 (by decide) (fun c14 => ?_) (fun c14 => ?_)
          · replace hf := hf.1 c14
            refine lv_iload hx hb dX11_trial_67 (lv_at hl 0 rfl) ?_
            refine lv_aload_n hx hb dX11_trial_69 rfl (lv_at hl 1 rfl) ?_
            have hm_15 : (68, 0) ∈ L := hw.2.2.2.1 11 0 hm0 8 (by decide) (by decide) rfl
            refine x_get (v := .ref (lay 68 0)) (j := 8) C hw hm0 rfl (by decide) (by decide) rfl q888 dX11_trial_70 ?_
            refine lv_iload_n hx hb dX11_trial_73 rfl (lv_at hl 4 rfl) ?_
            refine x_iald C hw hm_15 (by decide) rfl hf.1 dX11_trial_74 ?_
            replace hf := hf.2
            refine lv_icmp_ne (tgt := 82) hx hb dX11_trial_75 (by decide) (fun c16 => ?_) (fun c16 => ?_)
            · replace hf := hf.1 c16
              refine lv_iconst (v := 1) hx hb dX11_trial_82 (by decide) ?_
              exact eX11_trial_b83_19 C hret hm0 ih hK99 σ12 v3 (1 : Int32) a1 v2 _ _ _ hf hw (lv_sub hl [1, 2, 4] rfl)
            · replace hf := hf.2 c16
              refine lv_iconst (v := 0) hx hb dX11_trial_78 (by decide) ?_
              refine lv_goto (tgt := 83) hx hb dX11_trial_79 (by decide) ?_
              exact eX11_trial_b83_19 C hret hm0 ih hK99 σ12 v3 (0 : Int32) a1 v2 _ _ _ hf hw (lv_sub hl [1, 2, 4] rfl)
          · replace hf := hf.2 c14
            refine lv_iconst (v := 2) hx hb dX11_trial_63 (by decide) ?_
            refine lv_goto (tgt := 83) hx hb dX11_trial_64 (by decide) ?_
            exact eX11_trial_b83_19 C hret hm0 ih hK99 σ12 v3 (2 : Int32) a1 v2 _ _ _ hf hw (lv_sub hl [1, 2, 4] rfl)
def fX11_trial (N : Nat) (σ : St) (a1 : Int32) (Q : Int32 → St → Prop) : Prop := fX11_in N σ a1 (0 : Int32) (2 : Int32) (fun (r2 : Int32) (σ1 : St) => ((¬ r2 = 0 → fX11_setCounts N σ1 (fun (σ4 : St) => fX11_trial_l19 N a1 Q (fun (σ18 : St) (u99_2 : Int32) => Q u99_2 σ18) N σ4 (0 : Int32) (0 : Int32))) ∧ (r2 = 0 → Q (-1 : Int32) σ1)))
set_option maxHeartbeats 4000000 in
set_option maxRecDepth 100000 in
theorem eX11_trial {l : Launch} {E : EC} {lay : Nat → Nat → Nat} {L : List (Nat × Nat)} {A : Nat → Prop} {N : Nat} {σ : St} {a1 : Int32} {Q : Int32 → St → Prop} (hf : fX11_trial N σ a1 Q) (hm0 : (11, 0) ∈ L) : Met l yX11_trial (.code yX11_trial cX11_trial 5 (some .int) :: big) rmX11_trial (va_Pc [.ref (lay 11 0), .int a1] (Bp E lay L A σ)) (va_Qi Q (Bd E lay L A) A) 0 0 A := by
  refine x_met (by decide +kernel) (Nat.le_of_ble_eq_true rfl) ?_
  intro p e s m args below meth c ls C hret hw hl
  have hx := C.1
  have hb := C.2.1
  have hl : lv_has ls 5 [(0, .ref (lay 11 0)), (1, .int a1)] := hl
  unfold fX11_trial at hf
  refine lv_iload_n hx hb dX11_trial_0 rfl (lv_at hl 1 rfl) ?_
  refine lv_iconst (v := 0) hx hb dX11_trial_1 (by decide) ?_
  refine lv_iconst (v := 2) hx hb dX11_trial_2 (by decide) ?_
  refine x_runi hw (x_S (n := 3) (rest := []) C hw (eX11_in hf) q984 q985 q53 q986 rfl rfl (by decide +kernel) ⟨Nat.le_of_ble_eq_true rfl, Nat.le_of_ble_eq_true rfl⟩ rfl hl.1 rfl (Nat.le_of_ble_eq_true rfl) dX11_trial_3) (fun r2 σ1 H locs hf hw => ?_)
  have hzr2 := hf.2
  replace hf := hf.1
  try dsimp only at hf
  refine lv_if_ne (tgt := 11) hx hb dX11_trial_6 (by decide) (fun c3 => ?_) (fun c3 => ?_)
  · replace hf := hf.1 c3
    refine lv_aload_n hx hb dX11_trial_11 rfl (lv_at hl 0 rfl) ?_
    refine x_runv hw (x_V (n := 0) (rest := []) C hw hm0 (by decide) (eX11_setCounts hf hm0) q1079 q1081 q32 q53 q1082 rfl rfl (by decide +kernel) ⟨Nat.le_of_ble_eq_true rfl, Nat.le_of_ble_eq_true rfl⟩ rfl hl.1 rfl (Nat.le_of_ble_eq_true rfl) dX11_trial_12) (fun σ4 H locs hf hw => ?_)
    try dsimp only at hf
    refine lv_iconst (v := 0) hx hb dX11_trial_15 (by decide) ?_
    refine lv_istore_n (lv' := [(2, .int (0 : Int32)), (0, .ref (lay 11 0)), (1, .int a1)]) hx hb dX11_trial_16 rfl hl (by decide) rfl (fun ls hl => ?_)
    refine lv_iconst (v := 0) hx hb dX11_trial_17 (by decide) ?_
    refine lv_istore_n (lv' := [(3, .int (0 : Int32)), (2, .int (0 : Int32)), (0, .ref (lay 11 0)), (1, .int a1)]) hx hb dX11_trial_18 rfl hl (by decide) rfl (fun ls hl => ?_)
    refine eX11_trial_l19 C hret hm0 ?_ N σ4 (0 : Int32) (0 : Int32) _ _ _ hf hw (lv_sub hl [2, 3, 1, 0] rfl)
    · intro σ18 u99_2 H locs ls hf hw hl
      refine lv_iload_n hx hb dX11_trial_99 rfl (lv_at hl 0 rfl) ?_
      exact x_iret C hret hw hf dX11_trial_100
  · replace hf := hf.2 c3
    refine lv_iconst (v := (-1)) hx hb dX11_trial_9 (by decide) ?_
    exact x_iret C hret hw hf dX11_trial_10
