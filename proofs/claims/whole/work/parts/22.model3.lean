-- X11_taken
abbrev rmX11_taken : Room := { frames := 4, cells := 0, slots := 0, locals := 99 }
def fX11_taken_b75_25 (N : Nat) (a1 : Int32) (a2 : Int32) (Q : Int32 → St → Prop) (Kh : St → Int32 → Int32 → Prop) (Kx83 : St → Int32 → Prop) (σ : St) (v4 : Int32) (t0 : Int32) (t1 : Int32) : Prop := Kh σ (t1 + t0) (v4 + (1 : Int32))
def fX11_taken_b74_25 (N : Nat) (a1 : Int32) (a2 : Int32) (Q : Int32 → St → Prop) (Kh : St → Int32 → Int32 → Prop) (Kx83 : St → Int32 → Prop) (σ : St) (v4 : Int32) (t0 : Int32) : Prop := fX11_taken_b75_25 N a1 a2 Q Kh Kx83 σ v4 (0 : Int32) t0
def fX11_taken_l25 (N : Nat) (a1 : Int32) (a2 : Int32) (Q : Int32 → St → Prop) (Kx83 : St → Int32 → Prop) : Nat → St → Int32 → Int32 → Prop
  | 0, _, _, _ => False
  | n + 1, σ, v3, v4 => (((sF σ 11 0 6) ≤ v4 → Kx83 σ v3) ∧ (¬ (sF σ 11 0 6) ≤ v4 → (vp_in v4 15 ∧ ((¬ (sA σ 70 0 (v4).toNatClampNeg) = 0 → fX11_taken_b74_25 N a1 a2 Q (fun (σ : St) (w3 : Int32) (w4 : Int32) => fX11_taken_l25 N a1 a2 Q Kx83 n σ w3 w4) Kx83 σ v4 v3) ∧ ((sA σ 70 0 (v4).toNatClampNeg) = 0 → (vp_in v4 15 ∧ ((¬ (sA σ 68 0 (v4).toNatClampNeg) = a1 → fX11_taken_b74_25 N a1 a2 Q (fun (σ : St) (w3 : Int32) (w4 : Int32) => fX11_taken_l25 N a1 a2 Q Kx83 n σ w3 w4) Kx83 σ v4 v3) ∧ ((sA σ 68 0 (v4).toNatClampNeg) = a1 → fX11_allFeatures N σ (fun (r14 : Int32) (σ13 : St) => fX11_nearestOf N σ13 v4 r14 (fun (r16 : Int32) (σ15 : St) => ((¬ r16 = a2 → fX11_taken_b74_25 N a1 a2 Q (fun (σ : St) (w3 : Int32) (w4 : Int32) => fX11_taken_l25 N a1 a2 Q Kx83 n σ w3 w4) Kx83 σ15 v4 v3) ∧ (r16 = a2 → fX11_taken_b75_25 N a1 a2 Q (fun (σ : St) (w3 : Int32) (w4 : Int32) => fX11_taken_l25 N a1 a2 Q Kx83 n σ w3 w4) Kx83 σ15 v4 (1 : Int32) v3))))))))))))
set_option maxHeartbeats 4000000 in
set_option maxRecDepth 100000 in
theorem eX11_taken_b75_25 {p : Program} {l : Launch} {e : Env} {s : State} {m : MethodId} {args : Array Value} {below : List Frame} {meth : Method} {c : Code} {E : EC} {lay : Nat → Nat → Nat} {L : List (Nat × Nat)} {A : Nat → Prop} (C : Cx p s m args c meth yX11_taken.cls cX11_taken 5 E A) (hret : meth.sig.returnType = some .int) {N : Nat} {a1 : Int32} {a2 : Int32} {Q : Int32 → St → Prop} {Kh : St → Int32 → Int32 → Prop} {Kx83 : St → Int32 → Prop} (hm0 : (11, 0) ∈ L) (hKh : ∀ (σ : St) (w3 : Int32) (w4 : Int32) (H : Heap) (locs : List Loc) (ls : Array Slot), Kh σ w3 w4 → Wo E lay L A s σ H locs → lv_has ls 5 [(0, .ref (lay 11 0)), (1, .int a1), (2, .int a2), (3, .int w3), (4, .int w4)] → W p l e rmX11_taken s m args below meth c H locs 0 0 (MQ below (va_Qi Q (Bd E lay L A) A) args s 0 0 A) (F0 m 25 ls [])) (hK83 : ∀ (σ : St) (w3 : Int32) (H : Heap) (locs : List Loc) (ls : Array Slot), Kx83 σ w3 → Wo E lay L A s σ H locs → lv_has ls 5 [(3, .int w3)] → W p l e rmX11_taken s m args below meth c H locs 0 0 (MQ below (va_Qi Q (Bd E lay L A) A) args s 0 0 A) (F0 m 83 ls [])) (σ : St) (v4 : Int32) (t0 : Int32) (t1 : Int32) (H : Heap) (locs : List Loc) (ls : Array Slot) (hf : fX11_taken_b75_25 N a1 a2 Q Kh Kx83 σ v4 t0 t1) (hw : Wo E lay L A s σ H locs) (hl : lv_has ls 5 [(0, .ref (lay 11 0)), (1, .int a1), (2, .int a2), (4, .int v4)]) : W p l e rmX11_taken s m args below meth c H locs 0 0 (MQ below (va_Qi Q (Bd E lay L A) A) args s 0 0 A) (F0 m 75 ls [.int t0, .int t1]) := by
  have hx := C.1
  have hb := C.2.1
  unfold fX11_taken_b75_25 at hf
  refine lv_iadd hx hb dX11_taken_75 ?_
  refine lv_istore_n (lv' := [(3, .int (t1 + t0)), (0, .ref (lay 11 0)), (1, .int a1), (2, .int a2), (4, .int v4)]) hx hb dX11_taken_76 rfl hl (by decide) rfl (fun ls hl => ?_)
  refine lv_iinc (v := (v4 + (1 : Int32))) (lv' := [(4, .int (v4 + (1 : Int32))), (3, .int (t1 + t0)), (0, .ref (lay 11 0)), (1, .int a1), (2, .int a2)]) hx hb dX11_taken_77 hl (k := 4) rfl (by rfl) (by decide) rfl (fun ls hl => ?_)
  refine lv_goto (tgt := 25) hx hb dX11_taken_80 (by decide) ?_
  exact hKh σ (t1 + t0) (v4 + (1 : Int32)) _ _ _ hf hw (lv_sub hl [2, 3, 4, 1, 0] rfl)
set_option maxHeartbeats 4000000 in
set_option maxRecDepth 100000 in
theorem eX11_taken_b74_25 {p : Program} {l : Launch} {e : Env} {s : State} {m : MethodId} {args : Array Value} {below : List Frame} {meth : Method} {c : Code} {E : EC} {lay : Nat → Nat → Nat} {L : List (Nat × Nat)} {A : Nat → Prop} (C : Cx p s m args c meth yX11_taken.cls cX11_taken 5 E A) (hret : meth.sig.returnType = some .int) {N : Nat} {a1 : Int32} {a2 : Int32} {Q : Int32 → St → Prop} {Kh : St → Int32 → Int32 → Prop} {Kx83 : St → Int32 → Prop} (hm0 : (11, 0) ∈ L) (hKh : ∀ (σ : St) (w3 : Int32) (w4 : Int32) (H : Heap) (locs : List Loc) (ls : Array Slot), Kh σ w3 w4 → Wo E lay L A s σ H locs → lv_has ls 5 [(0, .ref (lay 11 0)), (1, .int a1), (2, .int a2), (3, .int w3), (4, .int w4)] → W p l e rmX11_taken s m args below meth c H locs 0 0 (MQ below (va_Qi Q (Bd E lay L A) A) args s 0 0 A) (F0 m 25 ls [])) (hK83 : ∀ (σ : St) (w3 : Int32) (H : Heap) (locs : List Loc) (ls : Array Slot), Kx83 σ w3 → Wo E lay L A s σ H locs → lv_has ls 5 [(3, .int w3)] → W p l e rmX11_taken s m args below meth c H locs 0 0 (MQ below (va_Qi Q (Bd E lay L A) A) args s 0 0 A) (F0 m 83 ls [])) (σ : St) (v4 : Int32) (t0 : Int32) (H : Heap) (locs : List Loc) (ls : Array Slot) (hf : fX11_taken_b74_25 N a1 a2 Q Kh Kx83 σ v4 t0) (hw : Wo E lay L A s σ H locs) (hl : lv_has ls 5 [(0, .ref (lay 11 0)), (1, .int a1), (2, .int a2), (4, .int v4)]) : W p l e rmX11_taken s m args below meth c H locs 0 0 (MQ below (va_Qi Q (Bd E lay L A) A) args s 0 0 A) (F0 m 74 ls [.int t0]) := by
  have hx := C.1
  have hb := C.2.1
  unfold fX11_taken_b74_25 at hf
  refine lv_iconst (v := 0) hx hb dX11_taken_74 (by decide) ?_
  exact eX11_taken_b75_25 C hret hm0 hKh hK83 σ v4 (0 : Int32) t0 _ _ _ hf hw (lv_sub hl [0, 1, 2, 3] rfl)
set_option maxHeartbeats 4000000 in
set_option maxRecDepth 100000 in
theorem eX11_taken_l25 {p : Program} {l : Launch} {e : Env} {s : State} {m : MethodId} {args : Array Value} {below : List Frame} {meth : Method} {c : Code} {E : EC} {lay : Nat → Nat → Nat} {L : List (Nat × Nat)} {A : Nat → Prop} (C : Cx p s m args c meth yX11_taken.cls cX11_taken 5 E A) (hret : meth.sig.returnType = some .int) {N : Nat} {a1 : Int32} {a2 : Int32} {Q : Int32 → St → Prop} {Kx83 : St → Int32 → Prop} (hm0 : (11, 0) ∈ L) (hK83 : ∀ (σ : St) (w3 : Int32) (H : Heap) (locs : List Loc) (ls : Array Slot), Kx83 σ w3 → Wo E lay L A s σ H locs → lv_has ls 5 [(3, .int w3)] → W p l e rmX11_taken s m args below meth c H locs 0 0 (MQ below (va_Qi Q (Bd E lay L A) A) args s 0 0 A) (F0 m 83 ls [])) : ∀ (n : Nat) (σ : St) (v3 : Int32) (v4 : Int32) (H : Heap) (locs : List Loc) (ls : Array Slot), fX11_taken_l25 N a1 a2 Q Kx83 n σ v3 v4 → Wo E lay L A s σ H locs → lv_has ls 5 [(0, .ref (lay 11 0)), (1, .int a1), (2, .int a2), (3, .int v3), (4, .int v4)] → W p l e rmX11_taken s m args below meth c H locs 0 0 (MQ below (va_Qi Q (Bd E lay L A) A) args s 0 0 A) (F0 m 25 ls []) := by
  have hx := C.1
  have hb := C.2.1
  intro n
  induction n with
  | zero => intro σ v3 v4 H locs ls hf; exact hf.elim
  | succ n ih =>
    intro σ v3 v4 H locs ls hf hw hl
    rw [fX11_taken_l25] at hf
    refine lv_iload hx hb dX11_taken_25 (lv_at hl 4 rfl) ?_
    refine lv_aload_n hx hb dX11_taken_27 rfl (lv_at hl 0 rfl) ?_
    refine x_get (v := .int (sF σ 11 0 6)) (j := 6) C hw hm0 rfl (by decide) (by decide) rfl q886 dX11_taken_28 ?_
    refine lv_icmp_ge (tgt := 83) hx hb dX11_taken_31 (by decide) (fun c8 => ?_) (fun c8 => ?_)
    · replace hf := hf.1 c8
      exact hK83 σ v3 _ _ _ hf hw (lv_sub hl [3] rfl)
    · replace hf := hf.2 c8
      refine lv_iload_n hx hb dX11_taken_34 rfl (lv_at hl 3 rfl) ?_
      refine lv_aload_n hx hb dX11_taken_35 rfl (lv_at hl 0 rfl) ?_
      have hm_9 : (70, 0) ∈ L := hw.2.2.2.1 11 0 hm0 10 (by decide) (by decide) rfl
      refine x_get (v := .ref (lay 70 0)) (j := 10) C hw hm0 rfl (by decide) (by decide) rfl q890 dX11_taken_36 ?_
      refine lv_iload hx hb dX11_taken_39 (lv_at hl 4 rfl) ?_
      refine x_zald C hw hm_9 (by decide) rfl hf.1 dX11_taken_41 ?_
      replace hf := hf.2
      refine lv_if_ne (tgt := 74) hx hb dX11_taken_42 (by decide) (fun c10 => ?_) (fun c10 => ?_)
      · replace hf := hf.1 c10
        exact eX11_taken_b74_25 C hret hm0 ih hK83 σ v4 v3 _ _ _ hf hw (lv_sub hl [0, 1, 2, 4] rfl)
      · replace hf := hf.2 c10
        refine lv_aload_n hx hb dX11_taken_45 rfl (lv_at hl 0 rfl) ?_
        have hm_11 : (68, 0) ∈ L := hw.2.2.2.1 11 0 hm0 8 (by decide) (by decide) rfl
        refine x_get (v := .ref (lay 68 0)) (j := 8) C hw hm0 rfl (by decide) (by decide) rfl q888 dX11_taken_46 ?_
        refine lv_iload hx hb dX11_taken_49 (lv_at hl 4 rfl) ?_
        refine x_iald C hw hm_11 (by decide) rfl hf.1 dX11_taken_51 ?_
        replace hf := hf.2
        refine lv_iload_n hx hb dX11_taken_52 rfl (lv_at hl 1 rfl) ?_
        refine lv_icmp_ne (tgt := 74) hx hb dX11_taken_53 (by decide) (fun c12 => ?_) (fun c12 => ?_)
        · replace hf := hf.1 c12
          exact eX11_taken_b74_25 C hret hm0 ih hK83 σ v4 v3 _ _ _ hf hw (lv_sub hl [0, 1, 2, 4] rfl)
        · replace hf := hf.2 c12
          refine lv_aload_n hx hb dX11_taken_56 rfl (lv_at hl 0 rfl) ?_
          refine lv_iload hx hb dX11_taken_57 (lv_at hl 4 rfl) ?_
          refine lv_aload_n hx hb dX11_taken_59 rfl (lv_at hl 0 rfl) ?_
          refine x_runi hw (x_V (n := 0) (rest := [.int v4, .ref (lay 11 0), .int v3]) C hw hm0 (by decide) (eX11_allFeatures hf hm0) q1113 q1115 q35 q53 q1116 rfl rfl (by decide +kernel) ⟨Nat.le_of_ble_eq_true rfl, Nat.le_of_ble_eq_true rfl⟩ rfl hl.1 rfl (Nat.le_of_ble_eq_true rfl) dX11_taken_60) (fun r14 σ13 H locs hf hw => ?_)
          try dsimp only at hf
          refine x_runi hw (x_V (n := 2) (rest := [.int v3]) C hw hm0 (by decide) (eX11_nearestOf hf hm0) q1133 q1135 q38 q53 q1136 rfl rfl (by decide +kernel) ⟨Nat.le_of_ble_eq_true rfl, Nat.le_of_ble_eq_true rfl⟩ rfl hl.1 rfl (Nat.le_of_ble_eq_true rfl) dX11_taken_63) (fun r16 σ15 H locs hf hw => ?_)
          try dsimp only at hf
          refine lv_iload_n hx hb dX11_taken_66 rfl (lv_at hl 2 rfl) ?_
          refine lv_icmp_ne (tgt := 74) hx hb dX11_taken_67 (by decide) (fun c17 => ?_) (fun c17 => ?_)
          · replace hf := hf.1 c17
            exact eX11_taken_b74_25 C hret hm0 ih hK83 σ15 v4 v3 _ _ _ hf hw (lv_sub hl [0, 1, 2, 4] rfl)
          · replace hf := hf.2 c17
            refine lv_iconst (v := 1) hx hb dX11_taken_70 (by decide) ?_
            refine lv_goto (tgt := 75) hx hb dX11_taken_71 (by decide) ?_
            exact eX11_taken_b75_25 C hret hm0 ih hK83 σ15 v4 (1 : Int32) v3 _ _ _ hf hw (lv_sub hl [0, 1, 2, 4] rfl)
def fX11_taken (N : Nat) (σ : St) (a1 : Int32) (a2 : Int32) (Q : Int32 → St → Prop) : Prop := fX11_isWriter N σ a1 (fun (r2 : Int32) (σ1 : St) => ((r2 = 0 → Q (-1 : Int32) σ1) ∧ (¬ r2 = 0 → fX11_isWriter N σ1 a2 (fun (r5 : Int32) (σ4 : St) => ((¬ r5 = 0 → fX11_setCounts N σ4 (fun (σ7 : St) => fX11_taken_l25 N a1 a2 Q (fun (σ18 : St) (u83_3 : Int32) => Q u83_3 σ18) N σ7 (0 : Int32) (0 : Int32))) ∧ (r5 = 0 → Q (-1 : Int32) σ4))))))
set_option maxHeartbeats 4000000 in
set_option maxRecDepth 100000 in
theorem eX11_taken {l : Launch} {E : EC} {lay : Nat → Nat → Nat} {L : List (Nat × Nat)} {A : Nat → Prop} {N : Nat} {σ : St} {a1 : Int32} {a2 : Int32} {Q : Int32 → St → Prop} (hf : fX11_taken N σ a1 a2 Q) (hm0 : (11, 0) ∈ L) : Met l yX11_taken (.code yX11_taken cX11_taken 5 (some .int) :: big) rmX11_taken (va_Pc [.ref (lay 11 0), .int a1, .int a2] (Bp E lay L A σ)) (va_Qi Q (Bd E lay L A) A) 0 0 A := by
  refine x_met (by decide +kernel) (Nat.le_of_ble_eq_true rfl) ?_
  intro p e s m args below meth c ls C hret hw hl
  have hx := C.1
  have hb := C.2.1
  have hl : lv_has ls 5 [(0, .ref (lay 11 0)), (1, .int a1), (2, .int a2)] := hl
  unfold fX11_taken at hf
  refine lv_iload_n hx hb dX11_taken_0 rfl (lv_at hl 1 rfl) ?_
  refine x_runi hw (x_S (n := 1) (rest := []) C hw (eX11_isWriter hf) q1094 q1095 q53 q1096 rfl rfl (by decide +kernel) ⟨Nat.le_of_ble_eq_true rfl, Nat.le_of_ble_eq_true rfl⟩ rfl hl.1 rfl (Nat.le_of_ble_eq_true rfl) dX11_taken_1) (fun r2 σ1 H locs hf hw => ?_)
  have hzr2 := hf.2
  replace hf := hf.1
  try dsimp only at hf
  refine lv_if_eq (tgt := 14) hx hb dX11_taken_4 (by decide) (fun c3 => ?_) (fun c3 => ?_)
  · replace hf := hf.1 c3
    refine lv_iconst (v := (-1)) hx hb dX11_taken_14 (by decide) ?_
    exact x_iret C hret hw hf dX11_taken_15
  · replace hf := hf.2 c3
    refine lv_iload_n hx hb dX11_taken_7 rfl (lv_at hl 2 rfl) ?_
    refine x_runi hw (x_S (n := 1) (rest := []) C hw (eX11_isWriter hf) q1094 q1095 q53 q1096 rfl rfl (by decide +kernel) ⟨Nat.le_of_ble_eq_true rfl, Nat.le_of_ble_eq_true rfl⟩ rfl hl.1 rfl (Nat.le_of_ble_eq_true rfl) dX11_taken_8) (fun r5 σ4 H locs hf hw => ?_)
    have hzr5 := hf.2
    replace hf := hf.1
    try dsimp only at hf
    refine lv_if_ne (tgt := 16) hx hb dX11_taken_11 (by decide) (fun c6 => ?_) (fun c6 => ?_)
    · replace hf := hf.1 c6
      refine lv_aload_n hx hb dX11_taken_16 rfl (lv_at hl 0 rfl) ?_
      refine x_runv hw (x_V (n := 0) (rest := []) C hw hm0 (by decide) (eX11_setCounts hf hm0) q1079 q1081 q32 q53 q1082 rfl rfl (by decide +kernel) ⟨Nat.le_of_ble_eq_true rfl, Nat.le_of_ble_eq_true rfl⟩ rfl hl.1 rfl (Nat.le_of_ble_eq_true rfl) dX11_taken_17) (fun σ7 H locs hf hw => ?_)
      try dsimp only at hf
      refine lv_iconst (v := 0) hx hb dX11_taken_20 (by decide) ?_
      refine lv_istore_n (lv' := [(3, .int (0 : Int32)), (0, .ref (lay 11 0)), (1, .int a1), (2, .int a2)]) hx hb dX11_taken_21 rfl hl (by decide) rfl (fun ls hl => ?_)
      refine lv_iconst (v := 0) hx hb dX11_taken_22 (by decide) ?_
      refine lv_istore (lv' := [(4, .int (0 : Int32)), (3, .int (0 : Int32)), (0, .ref (lay 11 0)), (1, .int a1), (2, .int a2)]) hx hb dX11_taken_23 hl (by decide) rfl (fun ls hl => ?_)
      refine eX11_taken_l25 C hret hm0 ?_ N σ7 (0 : Int32) (0 : Int32) _ _ _ hf hw (lv_sub hl [2, 3, 4, 1, 0] rfl)
      · intro σ18 u83_3 H locs ls hf hw hl
        refine lv_iload_n hx hb dX11_taken_83 rfl (lv_at hl 0 rfl) ?_
        exact x_iret C hret hw hf dX11_taken_84
    · replace hf := hf.2 c6
      refine lv_iconst (v := (-1)) hx hb dX11_taken_14 (by decide) ?_
      exact x_iret C hret hw hf dX11_taken_15
-- X11_impostors
abbrev rmX11_impostors : Room := { frames := 4, cells := 0, slots := 0, locals := 99 }
def fX11_impostors_b143_82 (N : Nat) (a1 : Int32) (a2 : Int32) (a3 : Int32) (a4 : Int64) (Q : Int32 → St → Prop) (Kh : St → Int64 → Int32 → Int32 → Prop) (Kx152 : St → Int32 → Prop) (σ : St) (v6 : Int64) (v9 : Int32) (t0 : Int32) (t1 : Int32) : Prop := Kh σ v6 (t1 + t0) (v9 + (1 : Int32))
def fX11_impostors_b131_82 (N : Nat) (a1 : Int32) (a2 : Int32) (a3 : Int32) (a4 : Int64) (Q : Int32 → St → Prop) (Kh : St → Int64 → Int32 → Int32 → Prop) (Kx152 : St → Int32 → Prop) (σ : St) (v6 : Int64) (v9 : Int32) (t0 : Int32) (t1 : Int32) (t3 : Int32) : Prop := fX11_nearestOf N σ t1 t0 (fun (r23 : Int32) (σ22 : St) => ((¬ r23 = a2 → fX11_impostors_b143_82 N a1 a2 a3 a4 Q Kh Kx152 σ22 v6 v9 (0 : Int32) t3) ∧ (r23 = a2 → fX11_impostors_b143_82 N a1 a2 a3 a4 Q Kh Kx152 σ22 v6 v9 (1 : Int32) t3)))
def fX11_impostors_l82 (N : Nat) (a1 : Int32) (a2 : Int32) (a3 : Int32) (a4 : Int64) (Q : Int32 → St → Prop) (Kx152 : St → Int32 → Prop) : Nat → St → Int64 → Int32 → Int32 → Prop
  | 0, _, _, _, _ => False
  | n + 1, σ, v6, v8, v9 => ((a3 ≤ v9 → Kx152 σ v8) ∧ (¬ a3 ≤ v9 → fX11_allFeatures N σ (fun (r19 : Int32) (σ18 : St) => ∀ x20 : Int32, x20 = ((((((((v6 * (1103515245 : Int64)) + (12345 : Int64))).toUInt64 >>> (((16 : Int32)).toInt64.toUInt64 &&& Int64.toUInt64 63)).toInt64)).toInt32) &&& r19) → ((¬ x20 = 0 → fX11_impostors_b131_82 N a1 a2 a3 a4 Q (fun (σ : St) (w6 : Int64) (w8 : Int32) (w9 : Int32) => fX11_impostors_l82 N a1 a2 a3 a4 Q Kx152 n σ w6 w8 w9) Kx152 σ18 ((v6 * (1103515245 : Int64)) + (12345 : Int64)) v9 x20 a1 v8) ∧ (x20 = 0 → fX11_allFeatures N σ18 (fun (r26 : Int32) (σ25 : St) => fX11_impostors_b131_82 N a1 a2 a3 a4 Q (fun (σ : St) (w6 : Int64) (w8 : Int32) (w9 : Int32) => fX11_impostors_l82 N a1 a2 a3 a4 Q Kx152 n σ w6 w8 w9) Kx152 σ25 ((v6 * (1103515245 : Int64)) + (12345 : Int64)) v9 r26 a1 v8))))))
set_option maxHeartbeats 4000000 in
set_option maxRecDepth 100000 in
theorem eX11_impostors_b143_82 {p : Program} {l : Launch} {e : Env} {s : State} {m : MethodId} {args : Array Value} {below : List Frame} {meth : Method} {c : Code} {E : EC} {lay : Nat → Nat → Nat} {L : List (Nat × Nat)} {A : Nat → Prop} (C : Cx p s m args c meth yX11_impostors.cls cX11_impostors 11 E A) (hret : meth.sig.returnType = some .int) {N : Nat} {a1 : Int32} {a2 : Int32} {a3 : Int32} {a4 : Int64} {Q : Int32 → St → Prop} {Kh : St → Int64 → Int32 → Int32 → Prop} {Kx152 : St → Int32 → Prop} (hm0 : (11, 0) ∈ L) (hKh : ∀ (σ : St) (w6 : Int64) (w8 : Int32) (w9 : Int32) (H : Heap) (locs : List Loc) (ls : Array Slot), Kh σ w6 w8 w9 → Wo E lay L A s σ H locs → lv_has ls 11 [(0, .ref (lay 11 0)), (1, .int a1), (2, .int a2), (3, .int a3), (6, .long w6), (8, .int w8), (9, .int w9)] → W p l e rmX11_impostors s m args below meth c H locs 0 0 (MQ below (va_Qi Q (Bd E lay L A) A) args s 0 0 A) (F0 m 82 ls [])) (hK152 : ∀ (σ : St) (w8 : Int32) (H : Heap) (locs : List Loc) (ls : Array Slot), Kx152 σ w8 → Wo E lay L A s σ H locs → lv_has ls 11 [(8, .int w8)] → W p l e rmX11_impostors s m args below meth c H locs 0 0 (MQ below (va_Qi Q (Bd E lay L A) A) args s 0 0 A) (F0 m 152 ls [])) (σ : St) (v6 : Int64) (v9 : Int32) (t0 : Int32) (t1 : Int32) (H : Heap) (locs : List Loc) (ls : Array Slot) (hf : fX11_impostors_b143_82 N a1 a2 a3 a4 Q Kh Kx152 σ v6 v9 t0 t1) (hw : Wo E lay L A s σ H locs) (hl : lv_has ls 11 [(0, .ref (lay 11 0)), (1, .int a1), (2, .int a2), (3, .int a3), (6, .long v6), (9, .int v9)]) : W p l e rmX11_impostors s m args below meth c H locs 0 0 (MQ below (va_Qi Q (Bd E lay L A) A) args s 0 0 A) (F0 m 143 ls [.int t0, .int t1]) := by
  have hx := C.1
  have hb := C.2.1
  unfold fX11_impostors_b143_82 at hf
  refine lv_iadd hx hb dX11_impostors_143 ?_
  refine lv_istore (lv' := [(8, .int (t1 + t0)), (0, .ref (lay 11 0)), (1, .int a1), (2, .int a2), (3, .int a3), (6, .long v6), (9, .int v9)]) hx hb dX11_impostors_144 hl (by decide) rfl (fun ls hl => ?_)
  refine lv_iinc (v := (v9 + (1 : Int32))) (lv' := [(9, .int (v9 + (1 : Int32))), (8, .int (t1 + t0)), (0, .ref (lay 11 0)), (1, .int a1), (2, .int a2), (3, .int a3), (6, .long v6)]) hx hb dX11_impostors_146 hl (k := 6) rfl (by rfl) (by decide) rfl (fun ls hl => ?_)
  refine lv_goto (tgt := 82) hx hb dX11_impostors_149 (by decide) ?_
  exact hKh σ v6 (t1 + t0) (v9 + (1 : Int32)) _ _ _ hf hw (lv_sub hl [2, 3, 4, 5, 6, 1, 0] rfl)
set_option maxHeartbeats 4000000 in
set_option maxRecDepth 100000 in
theorem eX11_impostors_b131_82 {p : Program} {l : Launch} {e : Env} {s : State} {m : MethodId} {args : Array Value} {below : List Frame} {meth : Method} {c : Code} {E : EC} {lay : Nat → Nat → Nat} {L : List (Nat × Nat)} {A : Nat → Prop} (C : Cx p s m args c meth yX11_impostors.cls cX11_impostors 11 E A) (hret : meth.sig.returnType = some .int) {N : Nat} {a1 : Int32} {a2 : Int32} {a3 : Int32} {a4 : Int64} {Q : Int32 → St → Prop} {Kh : St → Int64 → Int32 → Int32 → Prop} {Kx152 : St → Int32 → Prop} (hm0 : (11, 0) ∈ L) (hKh : ∀ (σ : St) (w6 : Int64) (w8 : Int32) (w9 : Int32) (H : Heap) (locs : List Loc) (ls : Array Slot), Kh σ w6 w8 w9 → Wo E lay L A s σ H locs → lv_has ls 11 [(0, .ref (lay 11 0)), (1, .int a1), (2, .int a2), (3, .int a3), (6, .long w6), (8, .int w8), (9, .int w9)] → W p l e rmX11_impostors s m args below meth c H locs 0 0 (MQ below (va_Qi Q (Bd E lay L A) A) args s 0 0 A) (F0 m 82 ls [])) (hK152 : ∀ (σ : St) (w8 : Int32) (H : Heap) (locs : List Loc) (ls : Array Slot), Kx152 σ w8 → Wo E lay L A s σ H locs → lv_has ls 11 [(8, .int w8)] → W p l e rmX11_impostors s m args below meth c H locs 0 0 (MQ below (va_Qi Q (Bd E lay L A) A) args s 0 0 A) (F0 m 152 ls [])) (σ : St) (v6 : Int64) (v9 : Int32) (t0 : Int32) (t1 : Int32) (t3 : Int32) (H : Heap) (locs : List Loc) (ls : Array Slot) (hf : fX11_impostors_b131_82 N a1 a2 a3 a4 Q Kh Kx152 σ v6 v9 t0 t1 t3) (hw : Wo E lay L A s σ H locs) (hl : lv_has ls 11 [(0, .ref (lay 11 0)), (1, .int a1), (2, .int a2), (3, .int a3), (6, .long v6), (9, .int v9)]) (hz11 : (11, 0) ∈ L) : W p l e rmX11_impostors s m args below meth c H locs 0 0 (MQ below (va_Qi Q (Bd E lay L A) A) args s 0 0 A) (F0 m 131 ls [.int t0, .int t1, .ref (lay 11 0), .int t3]) := by
  have hx := C.1
  have hb := C.2.1
  unfold fX11_impostors_b131_82 at hf
  refine x_runi hw (x_V (n := 2) (rest := [.int t3]) C hw hz11 (by decide) (eX11_nearestOf hf hz11) q1133 q1135 q38 q53 q1136 rfl rfl (by decide +kernel) ⟨Nat.le_of_ble_eq_true rfl, Nat.le_of_ble_eq_true rfl⟩ rfl hl.1 rfl (Nat.le_of_ble_eq_true rfl) dX11_impostors_131) (fun r23 σ22 H locs hf hw => ?_)
  try dsimp only at hf
  refine lv_iload_n hx hb dX11_impostors_134 rfl (lv_at hl 2 rfl) ?_
  refine lv_icmp_ne (tgt := 142) hx hb dX11_impostors_135 (by decide) (fun c24 => ?_) (fun c24 => ?_)
  · replace hf := hf.1 c24
    refine lv_iconst (v := 0) hx hb dX11_impostors_142 (by decide) ?_
    exact eX11_impostors_b143_82 C hret hm0 hKh hK152 σ22 v6 v9 (0 : Int32) t3 _ _ _ hf hw (lv_sub hl [0, 1, 2, 3, 4, 5] rfl)
  · replace hf := hf.2 c24
    refine lv_iconst (v := 1) hx hb dX11_impostors_138 (by decide) ?_
    refine lv_goto (tgt := 143) hx hb dX11_impostors_139 (by decide) ?_
    exact eX11_impostors_b143_82 C hret hm0 hKh hK152 σ22 v6 v9 (1 : Int32) t3 _ _ _ hf hw (lv_sub hl [0, 1, 2, 3, 4, 5] rfl)
set_option maxHeartbeats 4000000 in
set_option maxRecDepth 100000 in
theorem eX11_impostors_l82 {p : Program} {l : Launch} {e : Env} {s : State} {m : MethodId} {args : Array Value} {below : List Frame} {meth : Method} {c : Code} {E : EC} {lay : Nat → Nat → Nat} {L : List (Nat × Nat)} {A : Nat → Prop} (C : Cx p s m args c meth yX11_impostors.cls cX11_impostors 11 E A) (hret : meth.sig.returnType = some .int) {N : Nat} {a1 : Int32} {a2 : Int32} {a3 : Int32} {a4 : Int64} {Q : Int32 → St → Prop} {Kx152 : St → Int32 → Prop} (hm0 : (11, 0) ∈ L) (hK152 : ∀ (σ : St) (w8 : Int32) (H : Heap) (locs : List Loc) (ls : Array Slot), Kx152 σ w8 → Wo E lay L A s σ H locs → lv_has ls 11 [(8, .int w8)] → W p l e rmX11_impostors s m args below meth c H locs 0 0 (MQ below (va_Qi Q (Bd E lay L A) A) args s 0 0 A) (F0 m 152 ls [])) : ∀ (n : Nat) (σ : St) (v6 : Int64) (v8 : Int32) (v9 : Int32) (H : Heap) (locs : List Loc) (ls : Array Slot), fX11_impostors_l82 N a1 a2 a3 a4 Q Kx152 n σ v6 v8 v9 → Wo E lay L A s σ H locs → lv_has ls 11 [(0, .ref (lay 11 0)), (1, .int a1), (2, .int a2), (3, .int a3), (6, .long v6), (8, .int v8), (9, .int v9)] → W p l e rmX11_impostors s m args below meth c H locs 0 0 (MQ below (va_Qi Q (Bd E lay L A) A) args s 0 0 A) (F0 m 82 ls []) := by
  have hx := C.1
  have hb := C.2.1
  intro n
  induction n with
  | zero => intro σ v6 v8 v9 H locs ls hf; exact hf.elim
  | succ n ih =>
    intro σ v6 v8 v9 H locs ls hf hw hl
    rw [fX11_impostors_l82] at hf
    refine lv_iload hx hb dX11_impostors_82 (lv_at hl 6 rfl) ?_
    refine lv_iload_n hx hb dX11_impostors_84 rfl (lv_at hl 3 rfl) ?_
    refine lv_icmp_ge (tgt := 152) hx hb dX11_impostors_85 (by decide) (fun c17 => ?_) (fun c17 => ?_)
    · replace hf := hf.1 c17
      exact hK152 σ v8 _ _ _ hf hw (lv_sub hl [5] rfl)
    · replace hf := hf.2 c17
      refine lv_lload hx hb dX11_impostors_88 (lv_at hl 4 rfl) ?_
      refine lv_ldc2 (v := 1103515245) hx hb C.2.2.2.1 (C.2.2.2.2.1 _ q1153) dX11_impostors_90 ?_
      refine lv_lmul hx hb dX11_impostors_93 ?_
      refine lv_ldc2 (v := 12345) hx hb C.2.2.2.1 (C.2.2.2.2.1 _ q1154) dX11_impostors_94 ?_
      refine lv_ladd hx hb dX11_impostors_97 ?_
      refine lv_lstore (lv' := [(6, .long ((v6 * (1103515245 : Int64)) + (12345 : Int64))), (0, .ref (lay 11 0)), (1, .int a1), (2, .int a2), (3, .int a3), (8, .int v8), (9, .int v9)]) hx hb dX11_impostors_98 hl (by decide) rfl (fun ls hl => ?_)
      refine lv_lload hx hb dX11_impostors_100 (lv_at hl 0 rfl) ?_
      refine lv_bipush (v := 16) hx hb dX11_impostors_102 (by decide) ?_
      refine lv_lushr hx hb dX11_impostors_104 rfl ?_
      refine lv_l2i hx hb dX11_impostors_105 rfl ?_
      refine lv_aload_n hx hb dX11_impostors_106 rfl (lv_at hl 1 rfl) ?_
      refine x_runi hw (x_V (n := 0) (rest := [.int (((((((v6 * (1103515245 : Int64)) + (12345 : Int64))).toUInt64 >>> (((16 : Int32)).toInt64.toUInt64 &&& Int64.toUInt64 63)).toInt64)).toInt32)]) C hw hm0 (by decide) (eX11_allFeatures hf hm0) q1113 q1115 q35 q53 q1116 rfl rfl (by decide +kernel) ⟨Nat.le_of_ble_eq_true rfl, Nat.le_of_ble_eq_true rfl⟩ rfl hl.1 rfl (Nat.le_of_ble_eq_true rfl) dX11_impostors_107) (fun r19 σ18 H locs hf hw => ?_)
      try dsimp only at hf
      refine lv_iand hx hb dX11_impostors_110 ?_
      refine lv_topi (fun x20 ex20 => ?_)
      replace hf := hf x20 ex20
      refine lv_istore (lv' := [(10, .int x20), (6, .long ((v6 * (1103515245 : Int64)) + (12345 : Int64))), (0, .ref (lay 11 0)), (1, .int a1), (2, .int a2), (3, .int a3), (8, .int v8), (9, .int v9)]) hx hb dX11_impostors_111 hl (by decide) rfl (fun ls hl => ?_)
      refine lv_iload hx hb dX11_impostors_113 (lv_at hl 6 rfl) ?_
      refine lv_aload_n hx hb dX11_impostors_115 rfl (lv_at hl 2 rfl) ?_
      refine lv_iload_n hx hb dX11_impostors_116 rfl (lv_at hl 3 rfl) ?_
      refine lv_iload hx hb dX11_impostors_117 (lv_at hl 0 rfl) ?_
      refine lv_if_ne (tgt := 129) hx hb dX11_impostors_119 (by decide) (fun c21 => ?_) (fun c21 => ?_)
      · replace hf := hf.1 c21
        refine lv_iload hx hb dX11_impostors_129 (lv_at hl 0 rfl) ?_
        exact eX11_impostors_b131_82 C hret hm0 ih hK152 σ18 ((v6 * (1103515245 : Int64)) + (12345 : Int64)) v9 x20 a1 v8 _ _ _ hf hw (lv_sub hl [2, 3, 4, 5, 1, 7] rfl) hm0
      · replace hf := hf.2 c21
        refine lv_aload_n hx hb dX11_impostors_122 rfl (lv_at hl 2 rfl) ?_
        refine x_runi hw (x_V (n := 0) (rest := [.int a1, .ref (lay 11 0), .int v8]) C hw hm0 (by decide) (eX11_allFeatures hf hm0) q1113 q1115 q35 q53 q1116 rfl rfl (by decide +kernel) ⟨Nat.le_of_ble_eq_true rfl, Nat.le_of_ble_eq_true rfl⟩ rfl hl.1 rfl (Nat.le_of_ble_eq_true rfl) dX11_impostors_123) (fun r26 σ25 H locs hf hw => ?_)
        try dsimp only at hf
        refine lv_goto (tgt := 131) hx hb dX11_impostors_126 (by decide) ?_
        exact eX11_impostors_b131_82 C hret hm0 ih hK152 σ25 ((v6 * (1103515245 : Int64)) + (12345 : Int64)) v9 r26 a1 v8 _ _ _ hf hw (lv_sub hl [2, 3, 4, 5, 1, 7] rfl) hm0
def fX11_impostors (N : Nat) (σ : St) (a1 : Int32) (a2 : Int32) (a3 : Int32) (a4 : Int64) (Q : Int32 → St → Prop) : Prop := fX11_isText N σ a1 (fun (r2 : Int32) (σ1 : St) => ((r2 = 0 → Q (-1 : Int32) σ1) ∧ (¬ r2 = 0 → fX11_isWriter N σ1 a2 (fun (r5 : Int32) (σ4 : St) => ((r5 = 0 → Q (-1 : Int32) σ4) ∧ (¬ r5 = 0 → fX11_in N σ4 a3 (1 : Int32) (200 : Int32) (fun (r8 : Int32) (σ7 : St) => ((¬ r8 = 0 → ((¬ (sF σ7 11 0 18) = 0 → (vp_in a1 15 ∧ (((sA σ7 70 0 (a1).toNatClampNeg) = 0 → fX11_handOf N σ7 a2 a1 (fun (r14 : Int32) (σ13 : St) => ((¬ r14 = 0 → fX11_setCounts N σ13 (fun (σ16 : St) => fX11_impostors_l82 N a1 a2 a3 a4 Q (fun (σ27 : St) (u152_8 : Int32) => Q u152_8 σ27) N σ16 a4 (0 : Int32) (0 : Int32))) ∧ (r14 = 0 → fX11_meets N σ13 (4 : Int32) (fun (r29 : Int32) (σ28 : St) => Q r29 σ28))))) ∧ (¬ (sA σ7 70 0 (a1).toNatClampNeg) = 0 → fX11_meets N σ7 (1 : Int32) (fun (r31 : Int32) (σ30 : St) => Q r31 σ30))))) ∧ ((sF σ7 11 0 18) = 0 → Q (-4 : Int32) σ7))) ∧ (r8 = 0 → Q (-1 : Int32) σ7)))))))))
set_option maxHeartbeats 4000000 in
set_option maxRecDepth 100000 in
theorem eX11_impostors {l : Launch} {E : EC} {lay : Nat → Nat → Nat} {L : List (Nat × Nat)} {A : Nat → Prop} {N : Nat} {σ : St} {a1 : Int32} {a2 : Int32} {a3 : Int32} {a4 : Int64} {Q : Int32 → St → Prop} (hf : fX11_impostors N σ a1 a2 a3 a4 Q) (hm0 : (11, 0) ∈ L) : Met l yX11_impostors (.code yX11_impostors cX11_impostors 11 (some .int) :: big) rmX11_impostors (va_Pc [.ref (lay 11 0), .int a1, .int a2, .int a3, .long a4] (Bp E lay L A σ)) (va_Qi Q (Bd E lay L A) A) 0 0 A := by
  refine x_met (by decide +kernel) (Nat.le_of_ble_eq_true rfl) ?_
  intro p e s m args below meth c ls C hret hw hl
  have hx := C.1
  have hb := C.2.1
  have hl : lv_has ls 11 [(0, .ref (lay 11 0)), (1, .int a1), (2, .int a2), (3, .int a3), (4, .long a4)] := hl
  unfold fX11_impostors at hf
  refine lv_aload_n hx hb dX11_impostors_0 rfl (lv_at hl 0 rfl) ?_
  refine lv_iload_n hx hb dX11_impostors_1 rfl (lv_at hl 1 rfl) ?_
  refine x_runi hw (x_V (n := 1) (rest := []) C hw hm0 (by decide) (eX11_isText hf hm0) q1028 q1030 q25 q53 q1031 rfl rfl (by decide +kernel) ⟨Nat.le_of_ble_eq_true rfl, Nat.le_of_ble_eq_true rfl⟩ rfl hl.1 rfl (Nat.le_of_ble_eq_true rfl) dX11_impostors_2) (fun r2 σ1 H locs hf hw => ?_)
  have hzr2 := hf.2
  replace hf := hf.1
  try dsimp only at hf
  refine lv_if_eq (tgt := 26) hx hb dX11_impostors_5 (by decide) (fun c3 => ?_) (fun c3 => ?_)
  · replace hf := hf.1 c3
    refine lv_iconst (v := (-1)) hx hb dX11_impostors_26 (by decide) ?_
    exact x_iret C hret hw hf dX11_impostors_27
  · replace hf := hf.2 c3
    refine lv_iload_n hx hb dX11_impostors_8 rfl (lv_at hl 2 rfl) ?_
    refine x_runi hw (x_S (n := 1) (rest := []) C hw (eX11_isWriter hf) q1094 q1095 q53 q1096 rfl rfl (by decide +kernel) ⟨Nat.le_of_ble_eq_true rfl, Nat.le_of_ble_eq_true rfl⟩ rfl hl.1 rfl (Nat.le_of_ble_eq_true rfl) dX11_impostors_9) (fun r5 σ4 H locs hf hw => ?_)
    have hzr5 := hf.2
    replace hf := hf.1
    try dsimp only at hf
    refine lv_if_eq (tgt := 26) hx hb dX11_impostors_12 (by decide) (fun c6 => ?_) (fun c6 => ?_)
    · replace hf := hf.1 c6
      refine lv_iconst (v := (-1)) hx hb dX11_impostors_26 (by decide) ?_
      exact x_iret C hret hw hf dX11_impostors_27
    · replace hf := hf.2 c6
      refine lv_iload_n hx hb dX11_impostors_15 rfl (lv_at hl 3 rfl) ?_
      refine lv_iconst (v := 1) hx hb dX11_impostors_16 (by decide) ?_
      refine lv_sipush (v := 200) hx hb dX11_impostors_17 (by decide) ?_
      refine x_runi hw (x_S (n := 3) (rest := []) C hw (eX11_in hf) q984 q985 q53 q986 rfl rfl (by decide +kernel) ⟨Nat.le_of_ble_eq_true rfl, Nat.le_of_ble_eq_true rfl⟩ rfl hl.1 rfl (Nat.le_of_ble_eq_true rfl) dX11_impostors_20) (fun r8 σ7 H locs hf hw => ?_)
      have hzr8 := hf.2
      replace hf := hf.1
      try dsimp only at hf
      refine lv_if_ne (tgt := 28) hx hb dX11_impostors_23 (by decide) (fun c9 => ?_) (fun c9 => ?_)
      · replace hf := hf.1 c9
        refine lv_aload_n hx hb dX11_impostors_28 rfl (lv_at hl 0 rfl) ?_
        refine x_get (v := .int (sF σ7 11 0 18)) (j := 18) C hw hm0 rfl (by decide) (by decide) rfl q898 dX11_impostors_29 ?_
        refine lv_if_ne (tgt := 38) hx hb dX11_impostors_32 (by decide) (fun c10 => ?_) (fun c10 => ?_)
        · replace hf := hf.1 c10
          refine lv_aload_n hx hb dX11_impostors_38 rfl (lv_at hl 0 rfl) ?_
          have hm_11 : (70, 0) ∈ L := hw.2.2.2.1 11 0 hm0 10 (by decide) (by decide) rfl
          refine x_get (v := .ref (lay 70 0)) (j := 10) C hw hm0 rfl (by decide) (by decide) rfl q890 dX11_impostors_39 ?_
          refine lv_iload_n hx hb dX11_impostors_42 rfl (lv_at hl 1 rfl) ?_
          refine x_zald C hw hm_11 (by decide) rfl hf.1 dX11_impostors_43 ?_
          replace hf := hf.2
          refine lv_if_eq (tgt := 53) hx hb dX11_impostors_44 (by decide) (fun c12 => ?_) (fun c12 => ?_)
          · replace hf := hf.1 c12
            refine lv_aload_n hx hb dX11_impostors_53 rfl (lv_at hl 0 rfl) ?_
            refine lv_iload_n hx hb dX11_impostors_54 rfl (lv_at hl 2 rfl) ?_
            refine lv_iload_n hx hb dX11_impostors_55 rfl (lv_at hl 1 rfl) ?_
            refine x_runi hw (x_V (n := 2) (rest := []) C hw hm0 (by decide) (eX11_handOf hf hm0) q1097 q1099 q34 q53 q1100 rfl rfl (by decide +kernel) ⟨Nat.le_of_ble_eq_true rfl, Nat.le_of_ble_eq_true rfl⟩ rfl hl.1 rfl (Nat.le_of_ble_eq_true rfl) dX11_impostors_56) (fun r14 σ13 H locs hf hw => ?_)
            try dsimp only at hf
            refine lv_if_ne (tgt := 68) hx hb dX11_impostors_59 (by decide) (fun c15 => ?_) (fun c15 => ?_)
            · replace hf := hf.1 c15
              refine lv_aload_n hx hb dX11_impostors_68 rfl (lv_at hl 0 rfl) ?_
              refine x_runv hw (x_V (n := 0) (rest := []) C hw hm0 (by decide) (eX11_setCounts hf hm0) q1079 q1081 q32 q53 q1082 rfl rfl (by decide +kernel) ⟨Nat.le_of_ble_eq_true rfl, Nat.le_of_ble_eq_true rfl⟩ rfl hl.1 rfl (Nat.le_of_ble_eq_true rfl) dX11_impostors_69) (fun σ16 H locs hf hw => ?_)
              try dsimp only at hf
              refine lv_lload hx hb dX11_impostors_72 (lv_at hl 4 rfl) ?_
              refine lv_lstore (lv' := [(6, .long a4), (0, .ref (lay 11 0)), (1, .int a1), (2, .int a2), (3, .int a3), (4, .long a4)]) hx hb dX11_impostors_74 hl (by decide) rfl (fun ls hl => ?_)
              refine lv_iconst (v := 0) hx hb dX11_impostors_76 (by decide) ?_
              refine lv_istore (lv' := [(8, .int (0 : Int32)), (6, .long a4), (0, .ref (lay 11 0)), (1, .int a1), (2, .int a2), (3, .int a3), (4, .long a4)]) hx hb dX11_impostors_77 hl (by decide) rfl (fun ls hl => ?_)
              refine lv_iconst (v := 0) hx hb dX11_impostors_79 (by decide) ?_
              refine lv_istore (lv' := [(9, .int (0 : Int32)), (8, .int (0 : Int32)), (6, .long a4), (0, .ref (lay 11 0)), (1, .int a1), (2, .int a2), (3, .int a3), (4, .long a4)]) hx hb dX11_impostors_80 hl (by decide) rfl (fun ls hl => ?_)
              refine eX11_impostors_l82 C hret hm0 ?_ N σ16 a4 (0 : Int32) (0 : Int32) _ _ _ hf hw (lv_sub hl [3, 4, 5, 6, 2, 1, 0] rfl)
              · intro σ27 u152_8 H locs ls hf hw hl
                refine lv_iload hx hb dX11_impostors_152 (lv_at hl 0 rfl) ?_
                exact x_iret C hret hw hf dX11_impostors_154
            · replace hf := hf.2 c15
              refine lv_aload_n hx hb dX11_impostors_62 rfl (lv_at hl 0 rfl) ?_
              refine lv_iconst (v := 4) hx hb dX11_impostors_63 (by decide) ?_
              refine x_runi hw (x_V (n := 1) (rest := []) C hw hm0 (by decide) (eX11_meets hf hm0) q987 q989 q22 q53 q990 rfl rfl (by decide +kernel) ⟨Nat.le_of_ble_eq_true rfl, Nat.le_of_ble_eq_true rfl⟩ rfl hl.1 rfl (Nat.le_of_ble_eq_true rfl) dX11_impostors_64) (fun r29 σ28 H locs hf hw => ?_)
              try dsimp only at hf
              exact x_iret C hret hw hf dX11_impostors_67
          · replace hf := hf.2 c12
            refine lv_aload_n hx hb dX11_impostors_47 rfl (lv_at hl 0 rfl) ?_
            refine lv_iconst (v := 1) hx hb dX11_impostors_48 (by decide) ?_
            refine x_runi hw (x_V (n := 1) (rest := []) C hw hm0 (by decide) (eX11_meets hf hm0) q987 q989 q22 q53 q990 rfl rfl (by decide +kernel) ⟨Nat.le_of_ble_eq_true rfl, Nat.le_of_ble_eq_true rfl⟩ rfl hl.1 rfl (Nat.le_of_ble_eq_true rfl) dX11_impostors_49) (fun r31 σ30 H locs hf hw => ?_)
            try dsimp only at hf
            exact x_iret C hret hw hf dX11_impostors_52
        · replace hf := hf.2 c10
          refine lv_bipush (v := (-4)) hx hb dX11_impostors_35 (by decide) ?_
          exact x_iret C hret hw hf dX11_impostors_37
      · replace hf := hf.2 c9
        refine lv_iconst (v := (-1)) hx hb dX11_impostors_26 (by decide) ?_
        exact x_iret C hret hw hf dX11_impostors_27
-- X11_windowFar
abbrev rmX11_windowFar : Room := { frames := 2, cells := 0, slots := 0, locals := 53 }
def fX11_windowFar_b82_6 (N : Nat) (a1 : Int32) (a2 : Int32) (a3 : Int32) (a4 : Int32) (Q : Int32 → St → Prop) (Kh : St → Int32 → Int32 → Prop) (Kx88 : St → Int32 → Prop) (σ : St) (v5 : Int32) (v6 : Int32) : Prop := Kh σ v5 (v6 + (1 : Int32))
def fX11_windowFar_b45_6 (N : Nat) (a1 : Int32) (a2 : Int32) (a3 : Int32) (a4 : Int32) (Q : Int32 → St → Prop) (Kh : St → Int32 → Int32 → Prop) (Kx88 : St → Int32 → Prop) (σ : St) (v5 : Int32) (v6 : Int32) (t0 : Int32) : Prop := fX11_countIn N σ v6 a1 a2 a3 (fun (r8 : Int32) (σ7 : St) => (¬ (t0 - a2) = 0 ∧ fX11_rateIn N σ7 v6 a4 (fun (r10 : Int32) (σ9 : St) => fX11_differing N σ9 (((1000 : Int32) * r8) / (t0 - a2)) r10 (fun (r12 : Int32) (σ11 : St) => fX11_windowFar_b82_6 N a1 a2 a3 a4 Q Kh Kx88 σ11 (v5 + r12) v6))))
def fX11_windowFar_l6 (N : Nat) (a1 : Int32) (a2 : Int32) (a3 : Int32) (a4 : Int32) (Q : Int32 → St → Prop) (Kx88 : St → Int32 → Prop) : Nat → St → Int32 → Int32 → Prop
  | 0, _, _, _ => False
  | n + 1, σ, v5, v6 => (((sF σ 11 0 18) ≤ v6 → Kx88 σ v5) ∧ (¬ (sF σ 11 0 18) ≤ v6 → (vp_in v6 12 ∧ (((sA σ 79 0 (v6).toNatClampNeg) ≤ 0 → fX11_windowFar_b82_6 N a1 a2 a3 a4 Q (fun (σ : St) (w5 : Int32) (w6 : Int32) => fX11_windowFar_l6 N a1 a2 a3 a4 Q Kx88 n σ w5 w6) Kx88 σ v5 v6) ∧ (¬ (sA σ 79 0 (v6).toNatClampNeg) ≤ 0 → (vp_in a1 15 ∧ (((sA σ 75 0 (a1).toNatClampNeg) ≤ a3 → (vp_in a1 15 ∧ fX11_windowFar_b45_6 N a1 a2 a3 a4 Q (fun (σ : St) (w5 : Int32) (w6 : Int32) => fX11_windowFar_l6 N a1 a2 a3 a4 Q Kx88 n σ w5 w6) Kx88 σ v5 v6 (sA σ 75 0 (a1).toNatClampNeg))) ∧ (¬ (sA σ 75 0 (a1).toNatClampNeg) ≤ a3 → fX11_windowFar_b45_6 N a1 a2 a3 a4 Q (fun (σ : St) (w5 : Int32) (w6 : Int32) => fX11_windowFar_l6 N a1 a2 a3 a4 Q Kx88 n σ w5 w6) Kx88 σ v5 v6 a3))))))))
set_option maxHeartbeats 4000000 in
set_option maxRecDepth 100000 in
theorem eX11_windowFar_b82_6 {p : Program} {l : Launch} {e : Env} {s : State} {m : MethodId} {args : Array Value} {below : List Frame} {meth : Method} {c : Code} {E : EC} {lay : Nat → Nat → Nat} {L : List (Nat × Nat)} {A : Nat → Prop} (C : Cx p s m args c meth yX11_windowFar.cls cX11_windowFar 8 E A) (hret : meth.sig.returnType = some .int) {N : Nat} {a1 : Int32} {a2 : Int32} {a3 : Int32} {a4 : Int32} {Q : Int32 → St → Prop} {Kh : St → Int32 → Int32 → Prop} {Kx88 : St → Int32 → Prop} (hm0 : (11, 0) ∈ L) (hKh : ∀ (σ : St) (w5 : Int32) (w6 : Int32) (H : Heap) (locs : List Loc) (ls : Array Slot), Kh σ w5 w6 → Wo E lay L A s σ H locs → lv_has ls 8 [(0, .ref (lay 11 0)), (1, .int a1), (2, .int a2), (3, .int a3), (4, .int a4), (5, .int w5), (6, .int w6)] → W p l e rmX11_windowFar s m args below meth c H locs 0 0 (MQ below (va_Qi Q (Bd E lay L A) A) args s 0 0 A) (F0 m 6 ls [])) (hK88 : ∀ (σ : St) (w5 : Int32) (H : Heap) (locs : List Loc) (ls : Array Slot), Kx88 σ w5 → Wo E lay L A s σ H locs → lv_has ls 8 [(5, .int w5)] → W p l e rmX11_windowFar s m args below meth c H locs 0 0 (MQ below (va_Qi Q (Bd E lay L A) A) args s 0 0 A) (F0 m 88 ls [])) (σ : St) (v5 : Int32) (v6 : Int32) (H : Heap) (locs : List Loc) (ls : Array Slot) (hf : fX11_windowFar_b82_6 N a1 a2 a3 a4 Q Kh Kx88 σ v5 v6) (hw : Wo E lay L A s σ H locs) (hl : lv_has ls 8 [(0, .ref (lay 11 0)), (1, .int a1), (2, .int a2), (3, .int a3), (4, .int a4), (5, .int v5), (6, .int v6)]) : W p l e rmX11_windowFar s m args below meth c H locs 0 0 (MQ below (va_Qi Q (Bd E lay L A) A) args s 0 0 A) (F0 m 82 ls []) := by
  have hx := C.1
  have hb := C.2.1
  unfold fX11_windowFar_b82_6 at hf
  refine lv_iinc (v := (v6 + (1 : Int32))) (lv' := [(6, .int (v6 + (1 : Int32))), (0, .ref (lay 11 0)), (1, .int a1), (2, .int a2), (3, .int a3), (4, .int a4), (5, .int v5)]) hx hb dX11_windowFar_82 hl (k := 6) rfl (by rfl) (by decide) rfl (fun ls hl => ?_)
  refine lv_goto (tgt := 6) hx hb dX11_windowFar_85 (by decide) ?_
  exact hKh σ v5 (v6 + (1 : Int32)) _ _ _ hf hw (lv_sub hl [1, 2, 3, 4, 5, 6, 0] rfl)
set_option maxHeartbeats 4000000 in
set_option maxRecDepth 100000 in
theorem eX11_windowFar_b45_6 {p : Program} {l : Launch} {e : Env} {s : State} {m : MethodId} {args : Array Value} {below : List Frame} {meth : Method} {c : Code} {E : EC} {lay : Nat → Nat → Nat} {L : List (Nat × Nat)} {A : Nat → Prop} (C : Cx p s m args c meth yX11_windowFar.cls cX11_windowFar 8 E A) (hret : meth.sig.returnType = some .int) {N : Nat} {a1 : Int32} {a2 : Int32} {a3 : Int32} {a4 : Int32} {Q : Int32 → St → Prop} {Kh : St → Int32 → Int32 → Prop} {Kx88 : St → Int32 → Prop} (hm0 : (11, 0) ∈ L) (hKh : ∀ (σ : St) (w5 : Int32) (w6 : Int32) (H : Heap) (locs : List Loc) (ls : Array Slot), Kh σ w5 w6 → Wo E lay L A s σ H locs → lv_has ls 8 [(0, .ref (lay 11 0)), (1, .int a1), (2, .int a2), (3, .int a3), (4, .int a4), (5, .int w5), (6, .int w6)] → W p l e rmX11_windowFar s m args below meth c H locs 0 0 (MQ below (va_Qi Q (Bd E lay L A) A) args s 0 0 A) (F0 m 6 ls [])) (hK88 : ∀ (σ : St) (w5 : Int32) (H : Heap) (locs : List Loc) (ls : Array Slot), Kx88 σ w5 → Wo E lay L A s σ H locs → lv_has ls 8 [(5, .int w5)] → W p l e rmX11_windowFar s m args below meth c H locs 0 0 (MQ below (va_Qi Q (Bd E lay L A) A) args s 0 0 A) (F0 m 88 ls [])) (σ : St) (v5 : Int32) (v6 : Int32) (t0 : Int32) (H : Heap) (locs : List Loc) (ls : Array Slot) (hf : fX11_windowFar_b45_6 N a1 a2 a3 a4 Q Kh Kx88 σ v5 v6 t0) (hw : Wo E lay L A s σ H locs) (hl : lv_has ls 8 [(0, .ref (lay 11 0)), (1, .int a1), (2, .int a2), (3, .int a3), (4, .int a4), (5, .int v5), (6, .int v6)]) : W p l e rmX11_windowFar s m args below meth c H locs 0 0 (MQ below (va_Qi Q (Bd E lay L A) A) args s 0 0 A) (F0 m 45 ls [.int t0]) := by
  have hx := C.1
  have hb := C.2.1
  unfold fX11_windowFar_b45_6 at hf
  refine lv_iload_n hx hb dX11_windowFar_45 rfl (lv_at hl 2 rfl) ?_
  refine lv_isub hx hb dX11_windowFar_46 ?_
  refine lv_istore (lv' := [(7, .int (t0 - a2)), (0, .ref (lay 11 0)), (1, .int a1), (2, .int a2), (3, .int a3), (4, .int a4), (5, .int v5), (6, .int v6)]) hx hb dX11_windowFar_47 hl (by decide) rfl (fun ls hl => ?_)
  refine lv_iload hx hb dX11_windowFar_49 (lv_at hl 6 rfl) ?_
  refine lv_aload_n hx hb dX11_windowFar_51 rfl (lv_at hl 1 rfl) ?_
  refine lv_sipush (v := 1000) hx hb dX11_windowFar_52 (by decide) ?_
  refine lv_aload_n hx hb dX11_windowFar_55 rfl (lv_at hl 1 rfl) ?_
  refine lv_iload hx hb dX11_windowFar_56 (lv_at hl 7 rfl) ?_
  refine lv_iload_n hx hb dX11_windowFar_58 rfl (lv_at hl 2 rfl) ?_
  refine lv_iload_n hx hb dX11_windowFar_59 rfl (lv_at hl 3 rfl) ?_
  refine lv_iload_n hx hb dX11_windowFar_60 rfl (lv_at hl 4 rfl) ?_
  refine x_runi hw (x_V (n := 4) (rest := [.int (1000 : Int32), .ref (lay 11 0), .int v5]) C hw hm0 (by decide) (eX11_countIn hf hm0) q1067 q1069 q30 q53 q1070 rfl rfl (by decide +kernel) ⟨Nat.le_of_ble_eq_true rfl, Nat.le_of_ble_eq_true rfl⟩ rfl hl.1 rfl (Nat.le_of_ble_eq_true rfl) dX11_windowFar_61) (fun r8 σ7 H locs hf hw => ?_)
  try dsimp only at hf
  refine lv_imul hx hb dX11_windowFar_64 ?_
  refine lv_iload hx hb dX11_windowFar_65 (lv_at hl 0 rfl) ?_
  refine lv_idiv hx hb dX11_windowFar_67 hf.1 ?_
  replace hf := hf.2
  refine lv_aload_n hx hb dX11_windowFar_68 rfl (lv_at hl 1 rfl) ?_
  refine lv_iload hx hb dX11_windowFar_69 (lv_at hl 7 rfl) ?_
  refine lv_iload hx hb dX11_windowFar_71 (lv_at hl 5 rfl) ?_
  refine x_runi hw (x_V (n := 2) (rest := [.int (((1000 : Int32) * r8) / (t0 - a2)), .ref (lay 11 0), .int v5]) C hw hm0 (by decide) (eX11_rateIn hf hm0) q1083 q1085 q33 q53 q1086 rfl rfl (by decide +kernel) ⟨Nat.le_of_ble_eq_true rfl, Nat.le_of_ble_eq_true rfl⟩ rfl hl.1 rfl (Nat.le_of_ble_eq_true rfl) dX11_windowFar_73) (fun r10 σ9 H locs hf hw => ?_)
  try dsimp only at hf
  refine x_runi hw (x_V (n := 2) (rest := [.int v5]) C hw hm0 (by decide) (eX11_differing hf hm0) q1121 q1123 q37 q53 q1124 rfl rfl (by decide +kernel) ⟨Nat.le_of_ble_eq_true rfl, Nat.le_of_ble_eq_true rfl⟩ rfl hl.1 rfl (Nat.le_of_ble_eq_true rfl) dX11_windowFar_76) (fun r12 σ11 H locs hf hw => ?_)
  try dsimp only at hf
  refine lv_iadd hx hb dX11_windowFar_79 ?_
  refine lv_istore (lv' := [(5, .int (v5 + r12)), (7, .int (t0 - a2)), (0, .ref (lay 11 0)), (1, .int a1), (2, .int a2), (3, .int a3), (4, .int a4), (6, .int v6)]) hx hb dX11_windowFar_80 hl (by decide) rfl (fun ls hl => ?_)
  exact eX11_windowFar_b82_6 C hret hm0 hKh hK88 σ11 (v5 + r12) v6 _ _ _ hf hw (lv_sub hl [2, 3, 4, 5, 6, 0, 7] rfl)
set_option maxHeartbeats 4000000 in
set_option maxRecDepth 100000 in
theorem eX11_windowFar_l6 {p : Program} {l : Launch} {e : Env} {s : State} {m : MethodId} {args : Array Value} {below : List Frame} {meth : Method} {c : Code} {E : EC} {lay : Nat → Nat → Nat} {L : List (Nat × Nat)} {A : Nat → Prop} (C : Cx p s m args c meth yX11_windowFar.cls cX11_windowFar 8 E A) (hret : meth.sig.returnType = some .int) {N : Nat} {a1 : Int32} {a2 : Int32} {a3 : Int32} {a4 : Int32} {Q : Int32 → St → Prop} {Kx88 : St → Int32 → Prop} (hm0 : (11, 0) ∈ L) (hK88 : ∀ (σ : St) (w5 : Int32) (H : Heap) (locs : List Loc) (ls : Array Slot), Kx88 σ w5 → Wo E lay L A s σ H locs → lv_has ls 8 [(5, .int w5)] → W p l e rmX11_windowFar s m args below meth c H locs 0 0 (MQ below (va_Qi Q (Bd E lay L A) A) args s 0 0 A) (F0 m 88 ls [])) : ∀ (n : Nat) (σ : St) (v5 : Int32) (v6 : Int32) (H : Heap) (locs : List Loc) (ls : Array Slot), fX11_windowFar_l6 N a1 a2 a3 a4 Q Kx88 n σ v5 v6 → Wo E lay L A s σ H locs → lv_has ls 8 [(0, .ref (lay 11 0)), (1, .int a1), (2, .int a2), (3, .int a3), (4, .int a4), (5, .int v5), (6, .int v6)] → W p l e rmX11_windowFar s m args below meth c H locs 0 0 (MQ below (va_Qi Q (Bd E lay L A) A) args s 0 0 A) (F0 m 6 ls []) := by
  have hx := C.1
  have hb := C.2.1
  intro n
  induction n with
  | zero => intro σ v5 v6 H locs ls hf; exact hf.elim
  | succ n ih =>
    intro σ v5 v6 H locs ls hf hw hl
    rw [fX11_windowFar_l6] at hf
    refine lv_iload hx hb dX11_windowFar_6 (lv_at hl 6 rfl) ?_
    refine lv_aload_n hx hb dX11_windowFar_8 rfl (lv_at hl 0 rfl) ?_
    refine x_get (v := .int (sF σ 11 0 18)) (j := 18) C hw hm0 rfl (by decide) (by decide) rfl q898 dX11_windowFar_9 ?_
    refine lv_icmp_ge (tgt := 88) hx hb dX11_windowFar_12 (by decide) (fun c1 => ?_) (fun c1 => ?_)
    · replace hf := hf.1 c1
      exact hK88 σ v5 _ _ _ hf hw (lv_sub hl [5] rfl)
    · replace hf := hf.2 c1
      refine lv_aload_n hx hb dX11_windowFar_15 rfl (lv_at hl 0 rfl) ?_
      have hm_2 : (79, 0) ∈ L := hw.2.2.2.1 11 0 hm0 19 (by decide) (by decide) rfl
      refine x_get (v := .ref (lay 79 0)) (j := 19) C hw hm0 rfl (by decide) (by decide) rfl q899 dX11_windowFar_16 ?_
      refine lv_iload hx hb dX11_windowFar_19 (lv_at hl 6 rfl) ?_
      refine x_iald C hw hm_2 (by decide) rfl hf.1 dX11_windowFar_21 ?_
      replace hf := hf.2
      refine lv_if_le (tgt := 82) hx hb dX11_windowFar_22 (by decide) (fun c3 => ?_) (fun c3 => ?_)
      · replace hf := hf.1 c3
        exact eX11_windowFar_b82_6 C hret hm0 ih hK88 σ v5 v6 _ _ _ hf hw (lv_sub hl [0, 1, 2, 3, 4, 5, 6] rfl)
      · replace hf := hf.2 c3
        refine lv_iload_n hx hb dX11_windowFar_25 rfl (lv_at hl 3 rfl) ?_
        refine lv_aload_n hx hb dX11_windowFar_26 rfl (lv_at hl 0 rfl) ?_
        have hm_4 : (75, 0) ∈ L := hw.2.2.2.1 11 0 hm0 15 (by decide) (by decide) rfl
        refine x_get (v := .ref (lay 75 0)) (j := 15) C hw hm0 rfl (by decide) (by decide) rfl q895 dX11_windowFar_27 ?_
        refine lv_iload_n hx hb dX11_windowFar_30 rfl (lv_at hl 1 rfl) ?_
        refine x_iald C hw hm_4 (by decide) rfl hf.1 dX11_windowFar_31 ?_
        replace hf := hf.2
        refine lv_icmp_ge (tgt := 39) hx hb dX11_windowFar_32 (by decide) (fun c5 => ?_) (fun c5 => ?_)
        · replace hf := hf.1 c5
          refine lv_aload_n hx hb dX11_windowFar_39 rfl (lv_at hl 0 rfl) ?_
          have hm_6 : (75, 0) ∈ L := hw.2.2.2.1 11 0 hm0 15 (by decide) (by decide) rfl
          refine x_get (v := .ref (lay 75 0)) (j := 15) C hw hm0 rfl (by decide) (by decide) rfl q895 dX11_windowFar_40 ?_
          refine lv_iload_n hx hb dX11_windowFar_43 rfl (lv_at hl 1 rfl) ?_
          refine x_iald C hw hm_6 (by decide) rfl hf.1 dX11_windowFar_44 ?_
          replace hf := hf.2
          exact eX11_windowFar_b45_6 C hret hm0 ih hK88 σ v5 v6 (sA σ 75 0 (a1).toNatClampNeg) _ _ _ hf hw (lv_sub hl [0, 1, 2, 3, 4, 5, 6] rfl)
        · replace hf := hf.2 c5
          refine lv_iload_n hx hb dX11_windowFar_35 rfl (lv_at hl 3 rfl) ?_
          refine lv_goto (tgt := 45) hx hb dX11_windowFar_36 (by decide) ?_
          exact eX11_windowFar_b45_6 C hret hm0 ih hK88 σ v5 v6 a3 _ _ _ hf hw (lv_sub hl [0, 1, 2, 3, 4, 5, 6] rfl)
def fX11_windowFar (N : Nat) (σ : St) (a1 : Int32) (a2 : Int32) (a3 : Int32) (a4 : Int32) (Q : Int32 → St → Prop) : Prop := fX11_windowFar_l6 N a1 a2 a3 a4 Q (fun (σ13 : St) (u88_5 : Int32) => Q u88_5 σ13) N σ (0 : Int32) (0 : Int32)
set_option maxHeartbeats 4000000 in
set_option maxRecDepth 100000 in
theorem eX11_windowFar {l : Launch} {E : EC} {lay : Nat → Nat → Nat} {L : List (Nat × Nat)} {A : Nat → Prop} {N : Nat} {σ : St} {a1 : Int32} {a2 : Int32} {a3 : Int32} {a4 : Int32} {Q : Int32 → St → Prop} (hf : fX11_windowFar N σ a1 a2 a3 a4 Q) (hm0 : (11, 0) ∈ L) : Met l yX11_windowFar (.code yX11_windowFar cX11_windowFar 8 (some .int) :: big) rmX11_windowFar (va_Pc [.ref (lay 11 0), .int a1, .int a2, .int a3, .int a4] (Bp E lay L A σ)) (va_Qi Q (Bd E lay L A) A) 0 0 A := by
  refine x_met (by decide +kernel) (Nat.le_of_ble_eq_true rfl) ?_
  intro p e s m args below meth c ls C hret hw hl
  have hx := C.1
  have hb := C.2.1
  have hl : lv_has ls 8 [(0, .ref (lay 11 0)), (1, .int a1), (2, .int a2), (3, .int a3), (4, .int a4)] := hl
  unfold fX11_windowFar at hf
  refine lv_iconst (v := 0) hx hb dX11_windowFar_0 (by decide) ?_
  refine lv_istore (lv' := [(5, .int (0 : Int32)), (0, .ref (lay 11 0)), (1, .int a1), (2, .int a2), (3, .int a3), (4, .int a4)]) hx hb dX11_windowFar_1 hl (by decide) rfl (fun ls hl => ?_)
  refine lv_iconst (v := 0) hx hb dX11_windowFar_3 (by decide) ?_
  refine lv_istore (lv' := [(6, .int (0 : Int32)), (5, .int (0 : Int32)), (0, .ref (lay 11 0)), (1, .int a1), (2, .int a2), (3, .int a3), (4, .int a4)]) hx hb dX11_windowFar_4 hl (by decide) rfl (fun ls hl => ?_)
  refine eX11_windowFar_l6 C hret hm0 ?_ N σ (0 : Int32) (0 : Int32) _ _ _ hf hw (lv_sub hl [2, 3, 4, 5, 6, 1, 0] rfl)
  · intro σ13 u88_5 H locs ls hf hw hl
    refine lv_iload hx hb dX11_windowFar_88 (lv_at hl 0 rfl) ?_
    exact x_iret C hret hw hf dX11_windowFar_90
-- X11_part
abbrev rmX11_part : Room := { frames := 4, cells := 0, slots := 0, locals := 99 }
def fX11_part_b86 (N : Nat) (a1 : Int32) (a2 : Int32) (a3 : Int32) (a4 : Int32) (a5 : Int32) (Q : Int32 → St → Prop) (σ : St) : Prop := fX11_meets N σ (4 : Int32) (fun (r23 : Int32) (σ22 : St) => Q r23 σ22)
def fX11_part_b282_140 (N : Nat) (a1 : Int32) (a2 : Int32) (a3 : Int32) (a4 : Int32) (a5 : Int32) (Q : Int32 → St → Prop) (Kh : St → Int32 → Int32 → Int32 → Prop) (Kx290 : St → Prop) (σ : St) (v7 : Int32) (v8 : Int32) (v9 : Int32) (t0 : Int64) (t1 : Int64) (t2 : Int32) (t3 : Nat) : Prop := (vp_in t2 101 ∧ ∀ σ45 : St, σ45 = setB σ 88 t3 (t2).toNatClampNeg (t1 + t0) → Kh σ45 v7 v8 (v9 + (-1 : Int32)))
def fX11_part_b233_140 (N : Nat) (a1 : Int32) (a2 : Int32) (a3 : Int32) (a4 : Int32) (a5 : Int32) (Q : Int32 → St → Prop) (Kh : St → Int32 → Int32 → Int32 → Prop) (Kx290 : St → Prop) (σ : St) (v7 : Int32) (v8 : Int32) (v9 : Int32) (v10 : Int32) (v11 : Int64) (v13 : Int64) (t0 : Int64) (t1 : Int64) (t2 : Int32) (t3 : Nat) : Prop := (vp_in t2 101 ∧ ∀ σ40 : St, σ40 = setB σ 87 t3 (t2).toNatClampNeg (t1 + t0) → fX11_windowFar N σ40 a1 (a2 * v9) ((a2 * v9) + a2) v8 (fun (r43 : Int32) (σ42 : St) => ((0 < (lg_cmp (v11 + ((v10).toInt64)) v13) → fX11_part_b282_140 N a1 a2 a3 a4 a5 Q Kh Kx290 σ42 v7 v8 v9 v13 ((r43).toInt64) v9 0) ∧ (¬ 0 < (lg_cmp (v11 + ((v10).toInt64)) v13) → fX11_part_b282_140 N a1 a2 a3 a4 a5 Q Kh Kx290 σ42 v7 v8 v9 (v11 + ((v10).toInt64)) ((r43).toInt64) v9 0))))
def fX11_part_b162_140 (N : Nat) (a1 : Int32) (a2 : Int32) (a3 : Int32) (a4 : Int32) (a5 : Int32) (Q : Int32 → St → Prop) (Kh : St → Int32 → Int32 → Int32 → Prop) (Kx290 : St → Prop) (σ : St) (v7 : Int32) (v8 : Int32) (v9 : Int32) (t0 : Int32) : Prop := (vp_in (v9 + (1 : Int32)) 101 ∧ (vp_in (v9 + (1 : Int32)) 101 ∧ fX11_windowFar N σ a1 (a2 * v9) ((a2 * v9) + a2) v7 (fun (r38 : Int32) (σ37 : St) => ((0 < (lg_cmp (sB σ 87 0 ((v9 + (1 : Int32))).toNatClampNeg) ((sB σ 88 0 ((v9 + (1 : Int32))).toNatClampNeg) + ((t0).toInt64))) → fX11_part_b233_140 N a1 a2 a3 a4 a5 Q Kh Kx290 σ37 v7 v8 v9 t0 (sB σ 87 0 ((v9 + (1 : Int32))).toNatClampNeg) (sB σ 88 0 ((v9 + (1 : Int32))).toNatClampNeg) ((sB σ 88 0 ((v9 + (1 : Int32))).toNatClampNeg) + ((t0).toInt64)) ((r38).toInt64) v9 0) ∧ (¬ 0 < (lg_cmp (sB σ 87 0 ((v9 + (1 : Int32))).toNatClampNeg) ((sB σ 88 0 ((v9 + (1 : Int32))).toNatClampNeg) + ((t0).toInt64))) → fX11_part_b233_140 N a1 a2 a3 a4 a5 Q Kh Kx290 σ37 v7 v8 v9 t0 (sB σ 87 0 ((v9 + (1 : Int32))).toNatClampNeg) (sB σ 88 0 ((v9 + (1 : Int32))).toNatClampNeg) (sB σ 87 0 ((v9 + (1 : Int32))).toNatClampNeg) ((r38).toInt64) v9 0)))))
def fX11_part_l140 (N : Nat) (a1 : Int32) (a2 : Int32) (a3 : Int32) (a4 : Int32) (a5 : Int32) (Q : Int32 → St → Prop) (Kx290 : St → Prop) : Nat → St → Int32 → Int32 → Int32 → Prop
  | 0, _, _, _, _ => False
  | n + 1, σ, v7, v8, v9 => ((v9 < 0 → Kx290 σ) ∧ (¬ v9 < 0 → ((¬ (v9 + (1 : Int32)) = (sF σ 11 0 25) → fX11_part_b162_140 N a1 a2 a3 a4 a5 Q (fun (σ : St) (w7 : Int32) (w8 : Int32) (w9 : Int32) => fX11_part_l140 N a1 a2 a3 a4 a5 Q Kx290 n σ w7 w8 w9) Kx290 σ v7 v8 v9 a5) ∧ ((v9 + (1 : Int32)) = (sF σ 11 0 25) → fX11_part_b162_140 N a1 a2 a3 a4 a5 Q (fun (σ : St) (w7 : Int32) (w8 : Int32) (w9 : Int32) => fX11_part_l140 N a1 a2 a3 a4 a5 Q Kx290 n σ w7 w8 w9) Kx290 σ v7 v8 v9 (0 : Int32)))))
def fX11_part_b453_331 (N : Nat) (a1 : Int32) (a2 : Int32) (a3 : Int32) (a4 : Int32) (a5 : Int32) (Q : Int32 → St → Prop) (Kh : St → Int32 → Int32 → Prop) (Kx462 : St → Int32 → Prop) (σ : St) (v10 : Int32) (t0 : Int32) (t1 : Int32) : Prop := Kh σ (t1 + t0) (v10 + (1 : Int32))
def fX11_part_b452_331 (N : Nat) (a1 : Int32) (a2 : Int32) (a3 : Int32) (a4 : Int32) (a5 : Int32) (Q : Int32 → St → Prop) (Kh : St → Int32 → Int32 → Prop) (Kx462 : St → Int32 → Prop) (σ : St) (v10 : Int32) (t0 : Int32) : Prop := fX11_part_b453_331 N a1 a2 a3 a4 a5 Q Kh Kx462 σ v10 (0 : Int32) t0
def fX11_part_b428_331 (N : Nat) (a1 : Int32) (a2 : Int32) (a3 : Int32) (a4 : Int32) (a5 : Int32) (Q : Int32 → St → Prop) (Kh : St → Int32 → Int32 → Prop) (Kx462 : St → Int32 → Prop) (σ : St) (v9 : Int32) (v10 : Int32) (v11 : Int32) (t0 : Int32) (t1 : Int32) (t2 : Nat) : Prop := (vp_in t1 100 ∧ ∀ σ61 : St, σ61 = setA σ 86 t2 (t1).toNatClampNeg t0 → ((v10 ≤ 0 → fX11_part_b452_331 N a1 a2 a3 a4 a5 Q Kh Kx462 σ61 v10 v9) ∧ (¬ v10 ≤ 0 → (vp_in v10 100 ∧ (((sA σ61 86 0 (v10).toNatClampNeg) = v11 → fX11_part_b452_331 N a1 a2 a3 a4 a5 Q Kh Kx462 σ61 v10 v9) ∧ (¬ (sA σ61 86 0 (v10).toNatClampNeg) = v11 → fX11_part_b453_331 N a1 a2 a3 a4 a5 Q Kh Kx462 σ61 v10 (1 : Int32) v9))))))
def fX11_part_b404_331 (N : Nat) (a1 : Int32) (a2 : Int32) (a3 : Int32) (a4 : Int32) (a5 : Int32) (Q : Int32 → St → Prop) (Kh : St → Int32 → Int32 → Prop) (Kx462 : St → Int32 → Prop) (σ : St) (v9 : Int32) (v10 : Int32) (v11 : Int32) (v12 : Int64) (t0 : Int32) (t1 : Int64) : Prop := ((0 < (lg_cmp v12 (t1 + ((t0).toInt64))) → fX11_part_b428_331 N a1 a2 a3 a4 a5 Q Kh Kx462 σ v9 v10 v11 a4 v10 0) ∧ (¬ 0 < (lg_cmp v12 (t1 + ((t0).toInt64))) → fX11_part_b428_331 N a1 a2 a3 a4 a5 Q Kh Kx462 σ v9 v10 v11 a3 v10 0))
def fX11_part_b381_331 (N : Nat) (a1 : Int32) (a2 : Int32) (a3 : Int32) (a4 : Int32) (a5 : Int32) (Q : Int32 → St → Prop) (Kh : St → Int32 → Int32 → Prop) (Kx462 : St → Int32 → Prop) (σ : St) (v9 : Int32) (v10 : Int32) (v11 : Int32) (t0 : Int32) (t1 : Int64) : Prop := (vp_in v10 101 ∧ ((¬ v11 = a3 → fX11_part_b404_331 N a1 a2 a3 a4 a5 Q Kh Kx462 σ v9 v10 v11 (t1 + ((t0).toInt64)) (0 : Int32) (sB σ 88 0 (v10).toNatClampNeg)) ∧ (v11 = a3 → fX11_part_b404_331 N a1 a2 a3 a4 a5 Q Kh Kx462 σ v9 v10 v11 (t1 + ((t0).toInt64)) a5 (sB σ 88 0 (v10).toNatClampNeg))))
def fX11_part_b359_331 (N : Nat) (a1 : Int32) (a2 : Int32) (a3 : Int32) (a4 : Int32) (a5 : Int32) (Q : Int32 → St → Prop) (Kh : St → Int32 → Int32 → Prop) (Kx462 : St → Int32 → Prop) (σ : St) (v9 : Int32) (v10 : Int32) (t0 : Int32) : Prop := (vp_in v10 101 ∧ ((¬ t0 = a4 → fX11_part_b381_331 N a1 a2 a3 a4 a5 Q Kh Kx462 σ v9 v10 t0 (0 : Int32) (sB σ 87 0 (v10).toNatClampNeg)) ∧ (t0 = a4 → fX11_part_b381_331 N a1 a2 a3 a4 a5 Q Kh Kx462 σ v9 v10 t0 a5 (sB σ 87 0 (v10).toNatClampNeg))))
def fX11_part_l331 (N : Nat) (a1 : Int32) (a2 : Int32) (a3 : Int32) (a4 : Int32) (a5 : Int32) (Q : Int32 → St → Prop) (Kx462 : St → Int32 → Prop) : Nat → St → Int32 → Int32 → Prop
  | 0, _, _, _ => False
  | n + 1, σ, v9, v10 => (((sF σ 11 0 25) ≤ v10 → Kx462 σ v9) ∧ (¬ (sF σ 11 0 25) ≤ v10 → ((¬ v10 = 0 → (vp_in (v10 - (1 : Int32)) 100 ∧ fX11_part_b359_331 N a1 a2 a3 a4 a5 Q (fun (σ : St) (w9 : Int32) (w10 : Int32) => fX11_part_l331 N a1 a2 a3 a4 a5 Q Kx462 n σ w9 w10) Kx462 σ v9 v10 (sA σ 86 0 ((v10 - (1 : Int32))).toNatClampNeg))) ∧ (v10 = 0 → fX11_part_b359_331 N a1 a2 a3 a4 a5 Q (fun (σ : St) (w9 : Int32) (w10 : Int32) => fX11_part_l331 N a1 a2 a3 a4 a5 Q Kx462 n σ w9 w10) Kx462 σ v9 v10 (-9 : Int32)))))
def fX11_part_b322 (N : Nat) (a1 : Int32) (a2 : Int32) (a3 : Int32) (a4 : Int32) (a5 : Int32) (Q : Int32 → St → Prop) (σ : St) (t0 : Int64) : Prop := ∀ σ51 : St, σ51 = setJ σ 11 0 2 t0 → fX11_part_l331 N a1 a2 a3 a4 a5 Q (fun (σ65 : St) (u462_9 : Int32) => Q u462_9 σ65) N σ51 (0 : Int32) (0 : Int32)
set_option maxHeartbeats 4000000 in
set_option maxRecDepth 100000 in
theorem eX11_part_b86 {p : Program} {l : Launch} {e : Env} {s : State} {m : MethodId} {args : Array Value} {below : List Frame} {meth : Method} {c : Code} {E : EC} {lay : Nat → Nat → Nat} {L : List (Nat × Nat)} {A : Nat → Prop} (C : Cx p s m args c meth yX11_part.cls cX11_part 16 E A) (hret : meth.sig.returnType = some .int) {N : Nat} {a1 : Int32} {a2 : Int32} {a3 : Int32} {a4 : Int32} {a5 : Int32} {Q : Int32 → St → Prop} (hm0 : (11, 0) ∈ L) (σ : St) (H : Heap) (locs : List Loc) (ls : Array Slot) (hf : fX11_part_b86 N a1 a2 a3 a4 a5 Q σ) (hw : Wo E lay L A s σ H locs) (hl : lv_has ls 16 [(0, .ref (lay 11 0))]) : W p l e rmX11_part s m args below meth c H locs 0 0 (MQ below (va_Qi Q (Bd E lay L A) A) args s 0 0 A) (F0 m 86 ls []) := by
  have hx := C.1
  have hb := C.2.1
  unfold fX11_part_b86 at hf
  refine lv_aload_n hx hb dX11_part_86 rfl (lv_at hl 0 rfl) ?_
  refine lv_iconst (v := 4) hx hb dX11_part_87 (by decide) ?_
  refine x_runi hw (x_V (n := 1) (rest := []) C hw hm0 (by decide) (eX11_meets hf hm0) q987 q989 q22 q53 q990 rfl rfl (by decide +kernel) ⟨Nat.le_of_ble_eq_true rfl, Nat.le_of_ble_eq_true rfl⟩ rfl hl.1 rfl (Nat.le_of_ble_eq_true rfl) dX11_part_88) (fun r23 σ22 H locs hf hw => ?_)
  try dsimp only at hf
  exact x_iret C hret hw hf dX11_part_91
set_option maxHeartbeats 4000000 in
set_option maxRecDepth 100000 in
theorem eX11_part_b282_140 {p : Program} {l : Launch} {e : Env} {s : State} {m : MethodId} {args : Array Value} {below : List Frame} {meth : Method} {c : Code} {E : EC} {lay : Nat → Nat → Nat} {L : List (Nat × Nat)} {A : Nat → Prop} (C : Cx p s m args c meth yX11_part.cls cX11_part 16 E A) (hret : meth.sig.returnType = some .int) {N : Nat} {a1 : Int32} {a2 : Int32} {a3 : Int32} {a4 : Int32} {a5 : Int32} {Q : Int32 → St → Prop} {Kh : St → Int32 → Int32 → Int32 → Prop} {Kx290 : St → Prop} (hm0 : (11, 0) ∈ L) (hKh : ∀ (σ : St) (w7 : Int32) (w8 : Int32) (w9 : Int32) (H : Heap) (locs : List Loc) (ls : Array Slot), Kh σ w7 w8 w9 → Wo E lay L A s σ H locs → lv_has ls 16 [(0, .ref (lay 11 0)), (1, .int a1), (2, .int a2), (3, .int a3), (4, .int a4), (5, .int a5), (7, .int w7), (8, .int w8), (9, .int w9)] → W p l e rmX11_part s m args below meth c H locs 0 0 (MQ below (va_Qi Q (Bd E lay L A) A) args s 0 0 A) (F0 m 140 ls [])) (hK290 : ∀ (σ : St) (H : Heap) (locs : List Loc) (ls : Array Slot), Kx290 σ → Wo E lay L A s σ H locs → lv_has ls 16 [(0, .ref (lay 11 0)), (3, .int a3), (4, .int a4), (5, .int a5)] → W p l e rmX11_part s m args below meth c H locs 0 0 (MQ below (va_Qi Q (Bd E lay L A) A) args s 0 0 A) (F0 m 290 ls [])) (σ : St) (v7 : Int32) (v8 : Int32) (v9 : Int32) (t0 : Int64) (t1 : Int64) (t2 : Int32) (t3 : Nat) (H : Heap) (locs : List Loc) (ls : Array Slot) (hf : fX11_part_b282_140 N a1 a2 a3 a4 a5 Q Kh Kx290 σ v7 v8 v9 t0 t1 t2 t3) (hw : Wo E lay L A s σ H locs) (hl : lv_has ls 16 [(0, .ref (lay 11 0)), (1, .int a1), (2, .int a2), (3, .int a3), (4, .int a4), (5, .int a5), (7, .int v7), (8, .int v8), (9, .int v9)]) (ht3 : (88, t3) ∈ L) : W p l e rmX11_part s m args below meth c H locs 0 0 (MQ below (va_Qi Q (Bd E lay L A) A) args s 0 0 A) (F0 m 282 ls [.long t0, .long t1, .int t2, .ref (lay 88 t3)]) := by
  have hx := C.1
  have hb := C.2.1
  unfold fX11_part_b282_140 at hf
  refine lv_ladd hx hb dX11_part_282 ?_
  refine x_last C hw ht3 (by decide) rfl hf.1 dX11_part_283 (fun σ45 H locs eσ45 hw => ?_)
  replace hf := hf.2 σ45 eσ45
  refine lv_iinc (v := (v9 + (-1 : Int32))) (lv' := [(9, .int (v9 + (-1 : Int32))), (0, .ref (lay 11 0)), (1, .int a1), (2, .int a2), (3, .int a3), (4, .int a4), (5, .int a5), (7, .int v7), (8, .int v8)]) hx hb dX11_part_284 hl (k := 8) rfl (by rfl) (by decide) rfl (fun ls hl => ?_)
  refine lv_goto (tgt := 140) hx hb dX11_part_287 (by decide) ?_
  exact hKh σ45 v7 v8 (v9 + (-1 : Int32)) _ _ _ hf hw (lv_sub hl [1, 2, 3, 4, 5, 6, 7, 8, 0] rfl)
set_option maxHeartbeats 4000000 in
set_option maxRecDepth 100000 in
theorem eX11_part_b233_140 {p : Program} {l : Launch} {e : Env} {s : State} {m : MethodId} {args : Array Value} {below : List Frame} {meth : Method} {c : Code} {E : EC} {lay : Nat → Nat → Nat} {L : List (Nat × Nat)} {A : Nat → Prop} (C : Cx p s m args c meth yX11_part.cls cX11_part 16 E A) (hret : meth.sig.returnType = some .int) {N : Nat} {a1 : Int32} {a2 : Int32} {a3 : Int32} {a4 : Int32} {a5 : Int32} {Q : Int32 → St → Prop} {Kh : St → Int32 → Int32 → Int32 → Prop} {Kx290 : St → Prop} (hm0 : (11, 0) ∈ L) (hKh : ∀ (σ : St) (w7 : Int32) (w8 : Int32) (w9 : Int32) (H : Heap) (locs : List Loc) (ls : Array Slot), Kh σ w7 w8 w9 → Wo E lay L A s σ H locs → lv_has ls 16 [(0, .ref (lay 11 0)), (1, .int a1), (2, .int a2), (3, .int a3), (4, .int a4), (5, .int a5), (7, .int w7), (8, .int w8), (9, .int w9)] → W p l e rmX11_part s m args below meth c H locs 0 0 (MQ below (va_Qi Q (Bd E lay L A) A) args s 0 0 A) (F0 m 140 ls [])) (hK290 : ∀ (σ : St) (H : Heap) (locs : List Loc) (ls : Array Slot), Kx290 σ → Wo E lay L A s σ H locs → lv_has ls 16 [(0, .ref (lay 11 0)), (3, .int a3), (4, .int a4), (5, .int a5)] → W p l e rmX11_part s m args below meth c H locs 0 0 (MQ below (va_Qi Q (Bd E lay L A) A) args s 0 0 A) (F0 m 290 ls [])) (σ : St) (v7 : Int32) (v8 : Int32) (v9 : Int32) (v10 : Int32) (v11 : Int64) (v13 : Int64) (t0 : Int64) (t1 : Int64) (t2 : Int32) (t3 : Nat) (H : Heap) (locs : List Loc) (ls : Array Slot) (hf : fX11_part_b233_140 N a1 a2 a3 a4 a5 Q Kh Kx290 σ v7 v8 v9 v10 v11 v13 t0 t1 t2 t3) (hw : Wo E lay L A s σ H locs) (hl : lv_has ls 16 [(0, .ref (lay 11 0)), (1, .int a1), (2, .int a2), (3, .int a3), (4, .int a4), (5, .int a5), (7, .int v7), (8, .int v8), (9, .int v9), (10, .int v10), (11, .long v11), (13, .long v13)]) (ht3 : (87, t3) ∈ L) : W p l e rmX11_part s m args below meth c H locs 0 0 (MQ below (va_Qi Q (Bd E lay L A) A) args s 0 0 A) (F0 m 233 ls [.long t0, .long t1, .int t2, .ref (lay 87 t3)]) := by
  have hx := C.1
  have hb := C.2.1
  unfold fX11_part_b233_140 at hf
  refine lv_ladd hx hb dX11_part_233 ?_
  refine x_last C hw ht3 (by decide) rfl hf.1 dX11_part_234 (fun σ40 H locs eσ40 hw => ?_)
  replace hf := hf.2 σ40 eσ40
  refine lv_aload_n hx hb dX11_part_235 rfl (lv_at hl 0 rfl) ?_
  have hm_41 : (88, 0) ∈ L := hw.2.2.2.1 11 0 hm0 28 (by decide) (by decide) rfl
  refine x_get (v := .ref (lay 88 0)) (j := 28) C hw hm0 rfl (by decide) (by decide) rfl q908 dX11_part_236 ?_
  refine lv_iload hx hb dX11_part_239 (lv_at hl 8 rfl) ?_
  refine lv_aload_n hx hb dX11_part_241 rfl (lv_at hl 0 rfl) ?_
  refine lv_iload_n hx hb dX11_part_242 rfl (lv_at hl 1 rfl) ?_
  refine lv_iload_n hx hb dX11_part_243 rfl (lv_at hl 2 rfl) ?_
  refine lv_iload hx hb dX11_part_244 (lv_at hl 8 rfl) ?_
  refine lv_imul hx hb dX11_part_246 ?_
  refine lv_iload_n hx hb dX11_part_247 rfl (lv_at hl 2 rfl) ?_
  refine lv_iload hx hb dX11_part_248 (lv_at hl 8 rfl) ?_
  refine lv_imul hx hb dX11_part_250 ?_
  refine lv_iload_n hx hb dX11_part_251 rfl (lv_at hl 2 rfl) ?_
  refine lv_iadd hx hb dX11_part_252 ?_
  refine lv_iload hx hb dX11_part_253 (lv_at hl 7 rfl) ?_
  refine x_runi hw (x_V (n := 4) (rest := [.int v9, .ref (lay 88 0)]) C hw hm0 (by decide) (eX11_windowFar hf hm0) q1160 q1162 q39 q53 q1163 rfl rfl (by decide +kernel) ⟨Nat.le_of_ble_eq_true rfl, Nat.le_of_ble_eq_true rfl⟩ rfl hl.1 rfl (Nat.le_of_ble_eq_true rfl) dX11_part_255) (fun r43 σ42 H locs hf hw => ?_)
  try dsimp only at hf
  refine lv_i2l hx hb dX11_part_258 rfl ?_
  refine lv_lload hx hb dX11_part_259 (lv_at hl 10 rfl) ?_
  refine lv_iload hx hb dX11_part_261 (lv_at hl 9 rfl) ?_
  refine lv_i2l hx hb dX11_part_263 rfl ?_
  refine lv_ladd hx hb dX11_part_264 ?_
  refine lv_lload hx hb dX11_part_265 (lv_at hl 11 rfl) ?_
  refine W.lcmp hx hb dX11_part_267 ?_
  refine lv_if_gt (tgt := 280) hx hb dX11_part_268 (by decide) (fun c44 => ?_) (fun c44 => ?_)
  · replace hf := hf.1 c44
    refine lv_lload hx hb dX11_part_280 (lv_at hl 11 rfl) ?_
    exact eX11_part_b282_140 C hret hm0 hKh hK290 σ42 v7 v8 v9 v13 ((r43).toInt64) v9 0 _ _ _ hf hw (lv_sub hl [0, 1, 2, 3, 4, 5, 6, 7, 8] rfl) hm_41
  · replace hf := hf.2 c44
    refine lv_lload hx hb dX11_part_271 (lv_at hl 10 rfl) ?_
    refine lv_iload hx hb dX11_part_273 (lv_at hl 9 rfl) ?_
    refine lv_i2l hx hb dX11_part_275 rfl ?_
    refine lv_ladd hx hb dX11_part_276 ?_
    refine lv_goto (tgt := 282) hx hb dX11_part_277 (by decide) ?_
    exact eX11_part_b282_140 C hret hm0 hKh hK290 σ42 v7 v8 v9 (v11 + ((v10).toInt64)) ((r43).toInt64) v9 0 _ _ _ hf hw (lv_sub hl [0, 1, 2, 3, 4, 5, 6, 7, 8] rfl) hm_41
set_option maxHeartbeats 4000000 in
set_option maxRecDepth 100000 in
theorem eX11_part_b162_140 {p : Program} {l : Launch} {e : Env} {s : State} {m : MethodId} {args : Array Value} {below : List Frame} {meth : Method} {c : Code} {E : EC} {lay : Nat → Nat → Nat} {L : List (Nat × Nat)} {A : Nat → Prop} (C : Cx p s m args c meth yX11_part.cls cX11_part 16 E A) (hret : meth.sig.returnType = some .int) {N : Nat} {a1 : Int32} {a2 : Int32} {a3 : Int32} {a4 : Int32} {a5 : Int32} {Q : Int32 → St → Prop} {Kh : St → Int32 → Int32 → Int32 → Prop} {Kx290 : St → Prop} (hm0 : (11, 0) ∈ L) (hKh : ∀ (σ : St) (w7 : Int32) (w8 : Int32) (w9 : Int32) (H : Heap) (locs : List Loc) (ls : Array Slot), Kh σ w7 w8 w9 → Wo E lay L A s σ H locs → lv_has ls 16 [(0, .ref (lay 11 0)), (1, .int a1), (2, .int a2), (3, .int a3), (4, .int a4), (5, .int a5), (7, .int w7), (8, .int w8), (9, .int w9)] → W p l e rmX11_part s m args below meth c H locs 0 0 (MQ below (va_Qi Q (Bd E lay L A) A) args s 0 0 A) (F0 m 140 ls [])) (hK290 : ∀ (σ : St) (H : Heap) (locs : List Loc) (ls : Array Slot), Kx290 σ → Wo E lay L A s σ H locs → lv_has ls 16 [(0, .ref (lay 11 0)), (3, .int a3), (4, .int a4), (5, .int a5)] → W p l e rmX11_part s m args below meth c H locs 0 0 (MQ below (va_Qi Q (Bd E lay L A) A) args s 0 0 A) (F0 m 290 ls [])) (σ : St) (v7 : Int32) (v8 : Int32) (v9 : Int32) (t0 : Int32) (H : Heap) (locs : List Loc) (ls : Array Slot) (hf : fX11_part_b162_140 N a1 a2 a3 a4 a5 Q Kh Kx290 σ v7 v8 v9 t0) (hw : Wo E lay L A s σ H locs) (hl : lv_has ls 16 [(0, .ref (lay 11 0)), (1, .int a1), (2, .int a2), (3, .int a3), (4, .int a4), (5, .int a5), (7, .int v7), (8, .int v8), (9, .int v9)]) : W p l e rmX11_part s m args below meth c H locs 0 0 (MQ below (va_Qi Q (Bd E lay L A) A) args s 0 0 A) (F0 m 162 ls [.int t0]) := by
  have hx := C.1
  have hb := C.2.1
  unfold fX11_part_b162_140 at hf
  refine lv_istore (lv' := [(10, .int t0), (0, .ref (lay 11 0)), (1, .int a1), (2, .int a2), (3, .int a3), (4, .int a4), (5, .int a5), (7, .int v7), (8, .int v8), (9, .int v9)]) hx hb dX11_part_162 hl (by decide) rfl (fun ls hl => ?_)
  refine lv_aload_n hx hb dX11_part_164 rfl (lv_at hl 1 rfl) ?_
  have hm_34 : (87, 0) ∈ L := hw.2.2.2.1 11 0 hm0 27 (by decide) (by decide) rfl
  refine x_get (v := .ref (lay 87 0)) (j := 27) C hw hm0 rfl (by decide) (by decide) rfl q907 dX11_part_165 ?_
  refine lv_iload hx hb dX11_part_168 (lv_at hl 9 rfl) ?_
  refine lv_iconst (v := 1) hx hb dX11_part_170 (by decide) ?_
  refine lv_iadd hx hb dX11_part_171 ?_
  refine x_lald C hw hm_34 (by decide) rfl hf.1 dX11_part_172 ?_
  replace hf := hf.2
  refine lv_lstore (lv' := [(11, .long (sB σ 87 0 ((v9 + (1 : Int32))).toNatClampNeg)), (10, .int t0), (0, .ref (lay 11 0)), (1, .int a1), (2, .int a2), (3, .int a3), (4, .int a4), (5, .int a5), (7, .int v7), (8, .int v8), (9, .int v9)]) hx hb dX11_part_173 hl (by decide) rfl (fun ls hl => ?_)
  refine lv_aload_n hx hb dX11_part_175 rfl (lv_at hl 2 rfl) ?_
  have hm_35 : (88, 0) ∈ L := hw.2.2.2.1 11 0 hm0 28 (by decide) (by decide) rfl
  refine x_get (v := .ref (lay 88 0)) (j := 28) C hw hm0 rfl (by decide) (by decide) rfl q908 dX11_part_176 ?_
  refine lv_iload hx hb dX11_part_179 (lv_at hl 10 rfl) ?_
  refine lv_iconst (v := 1) hx hb dX11_part_181 (by decide) ?_
  refine lv_iadd hx hb dX11_part_182 ?_
  refine x_lald C hw hm_35 (by decide) rfl hf.1 dX11_part_183 ?_
  replace hf := hf.2
  refine lv_lstore (lv' := [(13, .long (sB σ 88 0 ((v9 + (1 : Int32))).toNatClampNeg)), (11, .long (sB σ 87 0 ((v9 + (1 : Int32))).toNatClampNeg)), (10, .int t0), (0, .ref (lay 11 0)), (1, .int a1), (2, .int a2), (3, .int a3), (4, .int a4), (5, .int a5), (7, .int v7), (8, .int v8), (9, .int v9)]) hx hb dX11_part_184 hl (by decide) rfl (fun ls hl => ?_)
  refine lv_aload_n hx hb dX11_part_186 rfl (lv_at hl 3 rfl) ?_
  have hm_36 : (87, 0) ∈ L := hw.2.2.2.1 11 0 hm0 27 (by decide) (by decide) rfl
  refine x_get (v := .ref (lay 87 0)) (j := 27) C hw hm0 rfl (by decide) (by decide) rfl q907 dX11_part_187 ?_
  refine lv_iload hx hb dX11_part_190 (lv_at hl 11 rfl) ?_
  refine lv_aload_n hx hb dX11_part_192 rfl (lv_at hl 3 rfl) ?_
  refine lv_iload_n hx hb dX11_part_193 rfl (lv_at hl 4 rfl) ?_
  refine lv_iload_n hx hb dX11_part_194 rfl (lv_at hl 5 rfl) ?_
  refine lv_iload hx hb dX11_part_195 (lv_at hl 11 rfl) ?_
  refine lv_imul hx hb dX11_part_197 ?_
  refine lv_iload_n hx hb dX11_part_198 rfl (lv_at hl 5 rfl) ?_
  refine lv_iload hx hb dX11_part_199 (lv_at hl 11 rfl) ?_
  refine lv_imul hx hb dX11_part_201 ?_
  refine lv_iload_n hx hb dX11_part_202 rfl (lv_at hl 5 rfl) ?_
  refine lv_iadd hx hb dX11_part_203 ?_
  refine lv_iload hx hb dX11_part_204 (lv_at hl 9 rfl) ?_
  refine x_runi hw (x_V (n := 4) (rest := [.int v9, .ref (lay 87 0)]) C hw hm0 (by decide) (eX11_windowFar hf hm0) q1160 q1162 q39 q53 q1163 rfl rfl (by decide +kernel) ⟨Nat.le_of_ble_eq_true rfl, Nat.le_of_ble_eq_true rfl⟩ rfl hl.1 rfl (Nat.le_of_ble_eq_true rfl) dX11_part_206) (fun r38 σ37 H locs hf hw => ?_)
  try dsimp only at hf
  refine lv_i2l hx hb dX11_part_209 rfl ?_
  refine lv_lload hx hb dX11_part_210 (lv_at hl 1 rfl) ?_
  refine lv_lload hx hb dX11_part_212 (lv_at hl 0 rfl) ?_
  refine lv_iload hx hb dX11_part_214 (lv_at hl 2 rfl) ?_
  refine lv_i2l hx hb dX11_part_216 rfl ?_
  refine lv_ladd hx hb dX11_part_217 ?_
  refine W.lcmp hx hb dX11_part_218 ?_
  refine lv_if_gt (tgt := 227) hx hb dX11_part_219 (by decide) (fun c39 => ?_) (fun c39 => ?_)
  · replace hf := hf.1 c39
    refine lv_lload hx hb dX11_part_227 (lv_at hl 0 rfl) ?_
    refine lv_iload hx hb dX11_part_229 (lv_at hl 2 rfl) ?_
    refine lv_i2l hx hb dX11_part_231 rfl ?_
    refine lv_ladd hx hb dX11_part_232 ?_
    exact eX11_part_b233_140 C hret hm0 hKh hK290 σ37 v7 v8 v9 t0 (sB σ 87 0 ((v9 + (1 : Int32))).toNatClampNeg) (sB σ 88 0 ((v9 + (1 : Int32))).toNatClampNeg) ((sB σ 88 0 ((v9 + (1 : Int32))).toNatClampNeg) + ((t0).toInt64)) ((r38).toInt64) v9 0 _ _ _ hf hw (lv_sub hl [3, 4, 5, 6, 7, 8, 9, 10, 11, 2, 1, 0] rfl) hm_36
  · replace hf := hf.2 c39
    refine lv_lload hx hb dX11_part_222 (lv_at hl 1 rfl) ?_
    refine lv_goto (tgt := 233) hx hb dX11_part_224 (by decide) ?_
    exact eX11_part_b233_140 C hret hm0 hKh hK290 σ37 v7 v8 v9 t0 (sB σ 87 0 ((v9 + (1 : Int32))).toNatClampNeg) (sB σ 88 0 ((v9 + (1 : Int32))).toNatClampNeg) (sB σ 87 0 ((v9 + (1 : Int32))).toNatClampNeg) ((r38).toInt64) v9 0 _ _ _ hf hw (lv_sub hl [3, 4, 5, 6, 7, 8, 9, 10, 11, 2, 1, 0] rfl) hm_36
set_option maxHeartbeats 4000000 in
set_option maxRecDepth 100000 in
theorem eX11_part_l140 {p : Program} {l : Launch} {e : Env} {s : State} {m : MethodId} {args : Array Value} {below : List Frame} {meth : Method} {c : Code} {E : EC} {lay : Nat → Nat → Nat} {L : List (Nat × Nat)} {A : Nat → Prop} (C : Cx p s m args c meth yX11_part.cls cX11_part 16 E A) (hret : meth.sig.returnType = some .int) {N : Nat} {a1 : Int32} {a2 : Int32} {a3 : Int32} {a4 : Int32} {a5 : Int32} {Q : Int32 → St → Prop} {Kx290 : St → Prop} (hm0 : (11, 0) ∈ L) (hK290 : ∀ (σ : St) (H : Heap) (locs : List Loc) (ls : Array Slot), Kx290 σ → Wo E lay L A s σ H locs → lv_has ls 16 [(0, .ref (lay 11 0)), (3, .int a3), (4, .int a4), (5, .int a5)] → W p l e rmX11_part s m args below meth c H locs 0 0 (MQ below (va_Qi Q (Bd E lay L A) A) args s 0 0 A) (F0 m 290 ls [])) : ∀ (n : Nat) (σ : St) (v7 : Int32) (v8 : Int32) (v9 : Int32) (H : Heap) (locs : List Loc) (ls : Array Slot), fX11_part_l140 N a1 a2 a3 a4 a5 Q Kx290 n σ v7 v8 v9 → Wo E lay L A s σ H locs → lv_has ls 16 [(0, .ref (lay 11 0)), (1, .int a1), (2, .int a2), (3, .int a3), (4, .int a4), (5, .int a5), (7, .int v7), (8, .int v8), (9, .int v9)] → W p l e rmX11_part s m args below meth c H locs 0 0 (MQ below (va_Qi Q (Bd E lay L A) A) args s 0 0 A) (F0 m 140 ls []) := by
  have hx := C.1
  have hb := C.2.1
  intro n
  induction n with
  | zero => intro σ v7 v8 v9 H locs ls hf; exact hf.elim
  | succ n ih =>
    intro σ v7 v8 v9 H locs ls hf hw hl
    rw [fX11_part_l140] at hf
    refine lv_iload hx hb dX11_part_140 (lv_at hl 8 rfl) ?_
    refine lv_if_lt (tgt := 290) hx hb dX11_part_142 (by decide) (fun c32 => ?_) (fun c32 => ?_)
    · replace hf := hf.1 c32
      exact hK290 σ _ _ _ hf hw (lv_sub hl [0, 3, 4, 5] rfl)
    · replace hf := hf.2 c32
      refine lv_iload hx hb dX11_part_145 (lv_at hl 8 rfl) ?_
      refine lv_iconst (v := 1) hx hb dX11_part_147 (by decide) ?_
      refine lv_iadd hx hb dX11_part_148 ?_
      refine lv_aload_n hx hb dX11_part_149 rfl (lv_at hl 0 rfl) ?_
      refine x_get (v := .int (sF σ 11 0 25)) (j := 25) C hw hm0 rfl (by decide) (by decide) rfl q905 dX11_part_150 ?_
      refine lv_icmp_ne (tgt := 160) hx hb dX11_part_153 (by decide) (fun c33 => ?_) (fun c33 => ?_)
      · replace hf := hf.1 c33
        refine lv_iload hx hb dX11_part_160 (lv_at hl 5 rfl) ?_
        exact eX11_part_b162_140 C hret hm0 ih hK290 σ v7 v8 v9 a5 _ _ _ hf hw (lv_sub hl [0, 1, 2, 3, 4, 5, 6, 7, 8] rfl)
      · replace hf := hf.2 c33
        refine lv_iconst (v := 0) hx hb dX11_part_156 (by decide) ?_
        refine lv_goto (tgt := 162) hx hb dX11_part_157 (by decide) ?_
        exact eX11_part_b162_140 C hret hm0 ih hK290 σ v7 v8 v9 (0 : Int32) _ _ _ hf hw (lv_sub hl [0, 1, 2, 3, 4, 5, 6, 7, 8] rfl)
set_option maxHeartbeats 4000000 in
set_option maxRecDepth 100000 in
theorem eX11_part_b453_331 {p : Program} {l : Launch} {e : Env} {s : State} {m : MethodId} {args : Array Value} {below : List Frame} {meth : Method} {c : Code} {E : EC} {lay : Nat → Nat → Nat} {L : List (Nat × Nat)} {A : Nat → Prop} (C : Cx p s m args c meth yX11_part.cls cX11_part 16 E A) (hret : meth.sig.returnType = some .int) {N : Nat} {a1 : Int32} {a2 : Int32} {a3 : Int32} {a4 : Int32} {a5 : Int32} {Q : Int32 → St → Prop} {Kh : St → Int32 → Int32 → Prop} {Kx462 : St → Int32 → Prop} (hm0 : (11, 0) ∈ L) (hKh : ∀ (σ : St) (w9 : Int32) (w10 : Int32) (H : Heap) (locs : List Loc) (ls : Array Slot), Kh σ w9 w10 → Wo E lay L A s σ H locs → lv_has ls 16 [(0, .ref (lay 11 0)), (3, .int a3), (4, .int a4), (5, .int a5), (9, .int w9), (10, .int w10)] → W p l e rmX11_part s m args below meth c H locs 0 0 (MQ below (va_Qi Q (Bd E lay L A) A) args s 0 0 A) (F0 m 331 ls [])) (hK462 : ∀ (σ : St) (w9 : Int32) (H : Heap) (locs : List Loc) (ls : Array Slot), Kx462 σ w9 → Wo E lay L A s σ H locs → lv_has ls 16 [(9, .int w9)] → W p l e rmX11_part s m args below meth c H locs 0 0 (MQ below (va_Qi Q (Bd E lay L A) A) args s 0 0 A) (F0 m 462 ls [])) (σ : St) (v10 : Int32) (t0 : Int32) (t1 : Int32) (H : Heap) (locs : List Loc) (ls : Array Slot) (hf : fX11_part_b453_331 N a1 a2 a3 a4 a5 Q Kh Kx462 σ v10 t0 t1) (hw : Wo E lay L A s σ H locs) (hl : lv_has ls 16 [(0, .ref (lay 11 0)), (3, .int a3), (4, .int a4), (5, .int a5), (10, .int v10)]) : W p l e rmX11_part s m args below meth c H locs 0 0 (MQ below (va_Qi Q (Bd E lay L A) A) args s 0 0 A) (F0 m 453 ls [.int t0, .int t1]) := by
  have hx := C.1
  have hb := C.2.1
  unfold fX11_part_b453_331 at hf
  refine lv_iadd hx hb dX11_part_453 ?_
  refine lv_istore (lv' := [(9, .int (t1 + t0)), (0, .ref (lay 11 0)), (3, .int a3), (4, .int a4), (5, .int a5), (10, .int v10)]) hx hb dX11_part_454 hl (by decide) rfl (fun ls hl => ?_)
  refine lv_iinc (v := (v10 + (1 : Int32))) (lv' := [(10, .int (v10 + (1 : Int32))), (9, .int (t1 + t0)), (0, .ref (lay 11 0)), (3, .int a3), (4, .int a4), (5, .int a5)]) hx hb dX11_part_456 hl (k := 5) rfl (by rfl) (by decide) rfl (fun ls hl => ?_)
  refine lv_goto (tgt := 331) hx hb dX11_part_459 (by decide) ?_
  exact hKh σ (t1 + t0) (v10 + (1 : Int32)) _ _ _ hf hw (lv_sub hl [2, 3, 4, 5, 1, 0] rfl)
set_option maxHeartbeats 4000000 in
set_option maxRecDepth 100000 in
theorem eX11_part_b452_331 {p : Program} {l : Launch} {e : Env} {s : State} {m : MethodId} {args : Array Value} {below : List Frame} {meth : Method} {c : Code} {E : EC} {lay : Nat → Nat → Nat} {L : List (Nat × Nat)} {A : Nat → Prop} (C : Cx p s m args c meth yX11_part.cls cX11_part 16 E A) (hret : meth.sig.returnType = some .int) {N : Nat} {a1 : Int32} {a2 : Int32} {a3 : Int32} {a4 : Int32} {a5 : Int32} {Q : Int32 → St → Prop} {Kh : St → Int32 → Int32 → Prop} {Kx462 : St → Int32 → Prop} (hm0 : (11, 0) ∈ L) (hKh : ∀ (σ : St) (w9 : Int32) (w10 : Int32) (H : Heap) (locs : List Loc) (ls : Array Slot), Kh σ w9 w10 → Wo E lay L A s σ H locs → lv_has ls 16 [(0, .ref (lay 11 0)), (3, .int a3), (4, .int a4), (5, .int a5), (9, .int w9), (10, .int w10)] → W p l e rmX11_part s m args below meth c H locs 0 0 (MQ below (va_Qi Q (Bd E lay L A) A) args s 0 0 A) (F0 m 331 ls [])) (hK462 : ∀ (σ : St) (w9 : Int32) (H : Heap) (locs : List Loc) (ls : Array Slot), Kx462 σ w9 → Wo E lay L A s σ H locs → lv_has ls 16 [(9, .int w9)] → W p l e rmX11_part s m args below meth c H locs 0 0 (MQ below (va_Qi Q (Bd E lay L A) A) args s 0 0 A) (F0 m 462 ls [])) (σ : St) (v10 : Int32) (t0 : Int32) (H : Heap) (locs : List Loc) (ls : Array Slot) (hf : fX11_part_b452_331 N a1 a2 a3 a4 a5 Q Kh Kx462 σ v10 t0) (hw : Wo E lay L A s σ H locs) (hl : lv_has ls 16 [(0, .ref (lay 11 0)), (3, .int a3), (4, .int a4), (5, .int a5), (10, .int v10)]) : W p l e rmX11_part s m args below meth c H locs 0 0 (MQ below (va_Qi Q (Bd E lay L A) A) args s 0 0 A) (F0 m 452 ls [.int t0]) := by
  have hx := C.1
  have hb := C.2.1
  unfold fX11_part_b452_331 at hf
  refine lv_iconst (v := 0) hx hb dX11_part_452 (by decide) ?_
  exact eX11_part_b453_331 C hret hm0 hKh hK462 σ v10 (0 : Int32) t0 _ _ _ hf hw (lv_sub hl [0, 1, 2, 3, 4] rfl)
set_option maxHeartbeats 4000000 in
set_option maxRecDepth 100000 in
theorem eX11_part_b428_331 {p : Program} {l : Launch} {e : Env} {s : State} {m : MethodId} {args : Array Value} {below : List Frame} {meth : Method} {c : Code} {E : EC} {lay : Nat → Nat → Nat} {L : List (Nat × Nat)} {A : Nat → Prop} (C : Cx p s m args c meth yX11_part.cls cX11_part 16 E A) (hret : meth.sig.returnType = some .int) {N : Nat} {a1 : Int32} {a2 : Int32} {a3 : Int32} {a4 : Int32} {a5 : Int32} {Q : Int32 → St → Prop} {Kh : St → Int32 → Int32 → Prop} {Kx462 : St → Int32 → Prop} (hm0 : (11, 0) ∈ L) (hKh : ∀ (σ : St) (w9 : Int32) (w10 : Int32) (H : Heap) (locs : List Loc) (ls : Array Slot), Kh σ w9 w10 → Wo E lay L A s σ H locs → lv_has ls 16 [(0, .ref (lay 11 0)), (3, .int a3), (4, .int a4), (5, .int a5), (9, .int w9), (10, .int w10)] → W p l e rmX11_part s m args below meth c H locs 0 0 (MQ below (va_Qi Q (Bd E lay L A) A) args s 0 0 A) (F0 m 331 ls [])) (hK462 : ∀ (σ : St) (w9 : Int32) (H : Heap) (locs : List Loc) (ls : Array Slot), Kx462 σ w9 → Wo E lay L A s σ H locs → lv_has ls 16 [(9, .int w9)] → W p l e rmX11_part s m args below meth c H locs 0 0 (MQ below (va_Qi Q (Bd E lay L A) A) args s 0 0 A) (F0 m 462 ls [])) (σ : St) (v9 : Int32) (v10 : Int32) (v11 : Int32) (t0 : Int32) (t1 : Int32) (t2 : Nat) (H : Heap) (locs : List Loc) (ls : Array Slot) (hf : fX11_part_b428_331 N a1 a2 a3 a4 a5 Q Kh Kx462 σ v9 v10 v11 t0 t1 t2) (hw : Wo E lay L A s σ H locs) (hl : lv_has ls 16 [(0, .ref (lay 11 0)), (3, .int a3), (4, .int a4), (5, .int a5), (9, .int v9), (10, .int v10), (11, .int v11)]) (ht2 : (86, t2) ∈ L) : W p l e rmX11_part s m args below meth c H locs 0 0 (MQ below (va_Qi Q (Bd E lay L A) A) args s 0 0 A) (F0 m 428 ls [.int t0, .int t1, .ref (lay 86 t2)]) := by
  have hx := C.1
  have hb := C.2.1
  unfold fX11_part_b428_331 at hf
  refine x_iast C hw ht2 (by decide) rfl hf.1 dX11_part_428 (fun σ61 H locs eσ61 hw => ?_)
  replace hf := hf.2 σ61 eσ61
  refine lv_iload hx hb dX11_part_429 (lv_at hl 4 rfl) ?_
  refine lv_iload hx hb dX11_part_431 (lv_at hl 5 rfl) ?_
  refine lv_if_le (tgt := 452) hx hb dX11_part_433 (by decide) (fun c62 => ?_) (fun c62 => ?_)
  · replace hf := hf.1 c62
    exact eX11_part_b452_331 C hret hm0 hKh hK462 σ61 v10 v9 _ _ _ hf hw (lv_sub hl [0, 1, 2, 3, 5] rfl)
  · replace hf := hf.2 c62
    refine lv_aload_n hx hb dX11_part_436 rfl (lv_at hl 0 rfl) ?_
    have hm_63 : (86, 0) ∈ L := hw.2.2.2.1 11 0 hm0 26 (by decide) (by decide) rfl
    refine x_get (v := .ref (lay 86 0)) (j := 26) C hw hm0 rfl (by decide) (by decide) rfl q906 dX11_part_437 ?_
    refine lv_iload hx hb dX11_part_440 (lv_at hl 5 rfl) ?_
    refine x_iald C hw hm_63 (by decide) rfl hf.1 dX11_part_442 ?_
    replace hf := hf.2
    refine lv_iload hx hb dX11_part_443 (lv_at hl 6 rfl) ?_
    refine lv_icmp_eq (tgt := 452) hx hb dX11_part_445 (by decide) (fun c64 => ?_) (fun c64 => ?_)
    · replace hf := hf.1 c64
      exact eX11_part_b452_331 C hret hm0 hKh hK462 σ61 v10 v9 _ _ _ hf hw (lv_sub hl [0, 1, 2, 3, 5] rfl)
    · replace hf := hf.2 c64
      refine lv_iconst (v := 1) hx hb dX11_part_448 (by decide) ?_
      refine lv_goto (tgt := 453) hx hb dX11_part_449 (by decide) ?_
      exact eX11_part_b453_331 C hret hm0 hKh hK462 σ61 v10 (1 : Int32) v9 _ _ _ hf hw (lv_sub hl [0, 1, 2, 3, 5] rfl)
set_option maxHeartbeats 4000000 in
set_option maxRecDepth 100000 in
theorem eX11_part_b404_331 {p : Program} {l : Launch} {e : Env} {s : State} {m : MethodId} {args : Array Value} {below : List Frame} {meth : Method} {c : Code} {E : EC} {lay : Nat → Nat → Nat} {L : List (Nat × Nat)} {A : Nat → Prop} (C : Cx p s m args c meth yX11_part.cls cX11_part 16 E A) (hret : meth.sig.returnType = some .int) {N : Nat} {a1 : Int32} {a2 : Int32} {a3 : Int32} {a4 : Int32} {a5 : Int32} {Q : Int32 → St → Prop} {Kh : St → Int32 → Int32 → Prop} {Kx462 : St → Int32 → Prop} (hm0 : (11, 0) ∈ L) (hKh : ∀ (σ : St) (w9 : Int32) (w10 : Int32) (H : Heap) (locs : List Loc) (ls : Array Slot), Kh σ w9 w10 → Wo E lay L A s σ H locs → lv_has ls 16 [(0, .ref (lay 11 0)), (3, .int a3), (4, .int a4), (5, .int a5), (9, .int w9), (10, .int w10)] → W p l e rmX11_part s m args below meth c H locs 0 0 (MQ below (va_Qi Q (Bd E lay L A) A) args s 0 0 A) (F0 m 331 ls [])) (hK462 : ∀ (σ : St) (w9 : Int32) (H : Heap) (locs : List Loc) (ls : Array Slot), Kx462 σ w9 → Wo E lay L A s σ H locs → lv_has ls 16 [(9, .int w9)] → W p l e rmX11_part s m args below meth c H locs 0 0 (MQ below (va_Qi Q (Bd E lay L A) A) args s 0 0 A) (F0 m 462 ls [])) (σ : St) (v9 : Int32) (v10 : Int32) (v11 : Int32) (v12 : Int64) (t0 : Int32) (t1 : Int64) (H : Heap) (locs : List Loc) (ls : Array Slot) (hf : fX11_part_b404_331 N a1 a2 a3 a4 a5 Q Kh Kx462 σ v9 v10 v11 v12 t0 t1) (hw : Wo E lay L A s σ H locs) (hl : lv_has ls 16 [(0, .ref (lay 11 0)), (3, .int a3), (4, .int a4), (5, .int a5), (9, .int v9), (10, .int v10), (11, .int v11), (12, .long v12)]) : W p l e rmX11_part s m args below meth c H locs 0 0 (MQ below (va_Qi Q (Bd E lay L A) A) args s 0 0 A) (F0 m 404 ls [.int t0, .long t1]) := by
  have hx := C.1
  have hb := C.2.1
  unfold fX11_part_b404_331 at hf
  refine lv_i2l hx hb dX11_part_404 rfl ?_
  refine lv_ladd hx hb dX11_part_405 ?_
  refine lv_lstore (lv' := [(14, .long (t1 + ((t0).toInt64))), (0, .ref (lay 11 0)), (3, .int a3), (4, .int a4), (5, .int a5), (9, .int v9), (10, .int v10), (11, .int v11), (12, .long v12)]) hx hb dX11_part_406 hl (by decide) rfl (fun ls hl => ?_)
  refine lv_aload_n hx hb dX11_part_408 rfl (lv_at hl 1 rfl) ?_
  have hm_59 : (86, 0) ∈ L := hw.2.2.2.1 11 0 hm0 26 (by decide) (by decide) rfl
  refine x_get (v := .ref (lay 86 0)) (j := 26) C hw hm0 rfl (by decide) (by decide) rfl q906 dX11_part_409 ?_
  refine lv_iload hx hb dX11_part_412 (lv_at hl 6 rfl) ?_
  refine lv_lload hx hb dX11_part_414 (lv_at hl 8 rfl) ?_
  refine lv_lload hx hb dX11_part_416 (lv_at hl 0 rfl) ?_
  refine W.lcmp hx hb dX11_part_418 ?_
  refine lv_if_gt (tgt := 426) hx hb dX11_part_419 (by decide) (fun c60 => ?_) (fun c60 => ?_)
  · replace hf := hf.1 c60
    refine lv_iload hx hb dX11_part_426 (lv_at hl 3 rfl) ?_
    exact eX11_part_b428_331 C hret hm0 hKh hK462 σ v9 v10 v11 a4 v10 0 _ _ _ hf hw (lv_sub hl [1, 2, 3, 4, 5, 6, 7] rfl) hm_59
  · replace hf := hf.2 c60
    refine lv_iload_n hx hb dX11_part_422 rfl (lv_at hl 2 rfl) ?_
    refine lv_goto (tgt := 428) hx hb dX11_part_423 (by decide) ?_
    exact eX11_part_b428_331 C hret hm0 hKh hK462 σ v9 v10 v11 a3 v10 0 _ _ _ hf hw (lv_sub hl [1, 2, 3, 4, 5, 6, 7] rfl) hm_59
set_option maxHeartbeats 4000000 in
set_option maxRecDepth 100000 in
theorem eX11_part_b381_331 {p : Program} {l : Launch} {e : Env} {s : State} {m : MethodId} {args : Array Value} {below : List Frame} {meth : Method} {c : Code} {E : EC} {lay : Nat → Nat → Nat} {L : List (Nat × Nat)} {A : Nat → Prop} (C : Cx p s m args c meth yX11_part.cls cX11_part 16 E A) (hret : meth.sig.returnType = some .int) {N : Nat} {a1 : Int32} {a2 : Int32} {a3 : Int32} {a4 : Int32} {a5 : Int32} {Q : Int32 → St → Prop} {Kh : St → Int32 → Int32 → Prop} {Kx462 : St → Int32 → Prop} (hm0 : (11, 0) ∈ L) (hKh : ∀ (σ : St) (w9 : Int32) (w10 : Int32) (H : Heap) (locs : List Loc) (ls : Array Slot), Kh σ w9 w10 → Wo E lay L A s σ H locs → lv_has ls 16 [(0, .ref (lay 11 0)), (3, .int a3), (4, .int a4), (5, .int a5), (9, .int w9), (10, .int w10)] → W p l e rmX11_part s m args below meth c H locs 0 0 (MQ below (va_Qi Q (Bd E lay L A) A) args s 0 0 A) (F0 m 331 ls [])) (hK462 : ∀ (σ : St) (w9 : Int32) (H : Heap) (locs : List Loc) (ls : Array Slot), Kx462 σ w9 → Wo E lay L A s σ H locs → lv_has ls 16 [(9, .int w9)] → W p l e rmX11_part s m args below meth c H locs 0 0 (MQ below (va_Qi Q (Bd E lay L A) A) args s 0 0 A) (F0 m 462 ls [])) (σ : St) (v9 : Int32) (v10 : Int32) (v11 : Int32) (t0 : Int32) (t1 : Int64) (H : Heap) (locs : List Loc) (ls : Array Slot) (hf : fX11_part_b381_331 N a1 a2 a3 a4 a5 Q Kh Kx462 σ v9 v10 v11 t0 t1) (hw : Wo E lay L A s σ H locs) (hl : lv_has ls 16 [(0, .ref (lay 11 0)), (3, .int a3), (4, .int a4), (5, .int a5), (9, .int v9), (10, .int v10), (11, .int v11)]) : W p l e rmX11_part s m args below meth c H locs 0 0 (MQ below (va_Qi Q (Bd E lay L A) A) args s 0 0 A) (F0 m 381 ls [.int t0, .long t1]) := by
  have hx := C.1
  have hb := C.2.1
  unfold fX11_part_b381_331 at hf
  refine lv_i2l hx hb dX11_part_381 rfl ?_
  refine lv_ladd hx hb dX11_part_382 ?_
  refine lv_lstore (lv' := [(12, .long (t1 + ((t0).toInt64))), (0, .ref (lay 11 0)), (3, .int a3), (4, .int a4), (5, .int a5), (9, .int v9), (10, .int v10), (11, .int v11)]) hx hb dX11_part_383 hl (by decide) rfl (fun ls hl => ?_)
  refine lv_aload_n hx hb dX11_part_385 rfl (lv_at hl 1 rfl) ?_
  have hm_57 : (88, 0) ∈ L := hw.2.2.2.1 11 0 hm0 28 (by decide) (by decide) rfl
  refine x_get (v := .ref (lay 88 0)) (j := 28) C hw hm0 rfl (by decide) (by decide) rfl q908 dX11_part_386 ?_
  refine lv_iload hx hb dX11_part_389 (lv_at hl 6 rfl) ?_
  refine x_lald C hw hm_57 (by decide) rfl hf.1 dX11_part_391 ?_
  replace hf := hf.2
  refine lv_iload hx hb dX11_part_392 (lv_at hl 7 rfl) ?_
  refine lv_iload_n hx hb dX11_part_394 rfl (lv_at hl 2 rfl) ?_
  refine lv_icmp_ne (tgt := 403) hx hb dX11_part_395 (by decide) (fun c58 => ?_) (fun c58 => ?_)
  · replace hf := hf.1 c58
    refine lv_iconst (v := 0) hx hb dX11_part_403 (by decide) ?_
    exact eX11_part_b404_331 C hret hm0 hKh hK462 σ v9 v10 v11 (t1 + ((t0).toInt64)) (0 : Int32) (sB σ 88 0 (v10).toNatClampNeg) _ _ _ hf hw (lv_sub hl [1, 2, 3, 4, 5, 6, 7, 0] rfl)
  · replace hf := hf.2 c58
    refine lv_iload hx hb dX11_part_398 (lv_at hl 4 rfl) ?_
    refine lv_goto (tgt := 404) hx hb dX11_part_400 (by decide) ?_
    exact eX11_part_b404_331 C hret hm0 hKh hK462 σ v9 v10 v11 (t1 + ((t0).toInt64)) a5 (sB σ 88 0 (v10).toNatClampNeg) _ _ _ hf hw (lv_sub hl [1, 2, 3, 4, 5, 6, 7, 0] rfl)
set_option maxHeartbeats 4000000 in
set_option maxRecDepth 100000 in
theorem eX11_part_b359_331 {p : Program} {l : Launch} {e : Env} {s : State} {m : MethodId} {args : Array Value} {below : List Frame} {meth : Method} {c : Code} {E : EC} {lay : Nat → Nat → Nat} {L : List (Nat × Nat)} {A : Nat → Prop} (C : Cx p s m args c meth yX11_part.cls cX11_part 16 E A) (hret : meth.sig.returnType = some .int) {N : Nat} {a1 : Int32} {a2 : Int32} {a3 : Int32} {a4 : Int32} {a5 : Int32} {Q : Int32 → St → Prop} {Kh : St → Int32 → Int32 → Prop} {Kx462 : St → Int32 → Prop} (hm0 : (11, 0) ∈ L) (hKh : ∀ (σ : St) (w9 : Int32) (w10 : Int32) (H : Heap) (locs : List Loc) (ls : Array Slot), Kh σ w9 w10 → Wo E lay L A s σ H locs → lv_has ls 16 [(0, .ref (lay 11 0)), (3, .int a3), (4, .int a4), (5, .int a5), (9, .int w9), (10, .int w10)] → W p l e rmX11_part s m args below meth c H locs 0 0 (MQ below (va_Qi Q (Bd E lay L A) A) args s 0 0 A) (F0 m 331 ls [])) (hK462 : ∀ (σ : St) (w9 : Int32) (H : Heap) (locs : List Loc) (ls : Array Slot), Kx462 σ w9 → Wo E lay L A s σ H locs → lv_has ls 16 [(9, .int w9)] → W p l e rmX11_part s m args below meth c H locs 0 0 (MQ below (va_Qi Q (Bd E lay L A) A) args s 0 0 A) (F0 m 462 ls [])) (σ : St) (v9 : Int32) (v10 : Int32) (t0 : Int32) (H : Heap) (locs : List Loc) (ls : Array Slot) (hf : fX11_part_b359_331 N a1 a2 a3 a4 a5 Q Kh Kx462 σ v9 v10 t0) (hw : Wo E lay L A s σ H locs) (hl : lv_has ls 16 [(0, .ref (lay 11 0)), (3, .int a3), (4, .int a4), (5, .int a5), (9, .int v9), (10, .int v10)]) : W p l e rmX11_part s m args below meth c H locs 0 0 (MQ below (va_Qi Q (Bd E lay L A) A) args s 0 0 A) (F0 m 359 ls [.int t0]) := by
  have hx := C.1
  have hb := C.2.1
  unfold fX11_part_b359_331 at hf
  refine lv_istore (lv' := [(11, .int t0), (0, .ref (lay 11 0)), (3, .int a3), (4, .int a4), (5, .int a5), (9, .int v9), (10, .int v10)]) hx hb dX11_part_359 hl (by decide) rfl (fun ls hl => ?_)
  refine lv_aload_n hx hb dX11_part_361 rfl (lv_at hl 1 rfl) ?_
  have hm_55 : (87, 0) ∈ L := hw.2.2.2.1 11 0 hm0 27 (by decide) (by decide) rfl
  refine x_get (v := .ref (lay 87 0)) (j := 27) C hw hm0 rfl (by decide) (by decide) rfl q907 dX11_part_362 ?_
  refine lv_iload hx hb dX11_part_365 (lv_at hl 6 rfl) ?_
  refine x_lald C hw hm_55 (by decide) rfl hf.1 dX11_part_367 ?_
  replace hf := hf.2
  refine lv_iload hx hb dX11_part_368 (lv_at hl 0 rfl) ?_
  refine lv_iload hx hb dX11_part_370 (lv_at hl 3 rfl) ?_
  refine lv_icmp_ne (tgt := 380) hx hb dX11_part_372 (by decide) (fun c56 => ?_) (fun c56 => ?_)
  · replace hf := hf.1 c56
    refine lv_iconst (v := 0) hx hb dX11_part_380 (by decide) ?_
    exact eX11_part_b381_331 C hret hm0 hKh hK462 σ v9 v10 t0 (0 : Int32) (sB σ 87 0 (v10).toNatClampNeg) _ _ _ hf hw (lv_sub hl [1, 2, 3, 4, 5, 6, 0] rfl)
  · replace hf := hf.2 c56
    refine lv_iload hx hb dX11_part_375 (lv_at hl 4 rfl) ?_
    refine lv_goto (tgt := 381) hx hb dX11_part_377 (by decide) ?_
    exact eX11_part_b381_331 C hret hm0 hKh hK462 σ v9 v10 t0 a5 (sB σ 87 0 (v10).toNatClampNeg) _ _ _ hf hw (lv_sub hl [1, 2, 3, 4, 5, 6, 0] rfl)
set_option maxHeartbeats 4000000 in
set_option maxRecDepth 100000 in
theorem eX11_part_l331 {p : Program} {l : Launch} {e : Env} {s : State} {m : MethodId} {args : Array Value} {below : List Frame} {meth : Method} {c : Code} {E : EC} {lay : Nat → Nat → Nat} {L : List (Nat × Nat)} {A : Nat → Prop} (C : Cx p s m args c meth yX11_part.cls cX11_part 16 E A) (hret : meth.sig.returnType = some .int) {N : Nat} {a1 : Int32} {a2 : Int32} {a3 : Int32} {a4 : Int32} {a5 : Int32} {Q : Int32 → St → Prop} {Kx462 : St → Int32 → Prop} (hm0 : (11, 0) ∈ L) (hK462 : ∀ (σ : St) (w9 : Int32) (H : Heap) (locs : List Loc) (ls : Array Slot), Kx462 σ w9 → Wo E lay L A s σ H locs → lv_has ls 16 [(9, .int w9)] → W p l e rmX11_part s m args below meth c H locs 0 0 (MQ below (va_Qi Q (Bd E lay L A) A) args s 0 0 A) (F0 m 462 ls [])) : ∀ (n : Nat) (σ : St) (v9 : Int32) (v10 : Int32) (H : Heap) (locs : List Loc) (ls : Array Slot), fX11_part_l331 N a1 a2 a3 a4 a5 Q Kx462 n σ v9 v10 → Wo E lay L A s σ H locs → lv_has ls 16 [(0, .ref (lay 11 0)), (3, .int a3), (4, .int a4), (5, .int a5), (9, .int v9), (10, .int v10)] → W p l e rmX11_part s m args below meth c H locs 0 0 (MQ below (va_Qi Q (Bd E lay L A) A) args s 0 0 A) (F0 m 331 ls []) := by
  have hx := C.1
  have hb := C.2.1
  intro n
  induction n with
  | zero => intro σ v9 v10 H locs ls hf; exact hf.elim
  | succ n ih =>
    intro σ v9 v10 H locs ls hf hw hl
    rw [fX11_part_l331] at hf
    refine lv_iload hx hb dX11_part_331 (lv_at hl 5 rfl) ?_
    refine lv_aload_n hx hb dX11_part_333 rfl (lv_at hl 0 rfl) ?_
    refine x_get (v := .int (sF σ 11 0 25)) (j := 25) C hw hm0 rfl (by decide) (by decide) rfl q905 dX11_part_334 ?_
    refine lv_icmp_ge (tgt := 462) hx hb dX11_part_337 (by decide) (fun c52 => ?_) (fun c52 => ?_)
    · replace hf := hf.1 c52
      exact hK462 σ v9 _ _ _ hf hw (lv_sub hl [4] rfl)
    · replace hf := hf.2 c52
      refine lv_iload hx hb dX11_part_340 (lv_at hl 5 rfl) ?_
      refine lv_if_ne (tgt := 350) hx hb dX11_part_342 (by decide) (fun c53 => ?_) (fun c53 => ?_)
      · replace hf := hf.1 c53
        refine lv_aload_n hx hb dX11_part_350 rfl (lv_at hl 0 rfl) ?_
        have hm_54 : (86, 0) ∈ L := hw.2.2.2.1 11 0 hm0 26 (by decide) (by decide) rfl
        refine x_get (v := .ref (lay 86 0)) (j := 26) C hw hm0 rfl (by decide) (by decide) rfl q906 dX11_part_351 ?_
        refine lv_iload hx hb dX11_part_354 (lv_at hl 5 rfl) ?_
        refine lv_iconst (v := 1) hx hb dX11_part_356 (by decide) ?_
        refine lv_isub hx hb dX11_part_357 ?_
        refine x_iald C hw hm_54 (by decide) rfl hf.1 dX11_part_358 ?_
        replace hf := hf.2
        exact eX11_part_b359_331 C hret hm0 ih hK462 σ v9 v10 (sA σ 86 0 ((v10 - (1 : Int32))).toNatClampNeg) _ _ _ hf hw (lv_sub hl [0, 1, 2, 3, 4, 5] rfl)
      · replace hf := hf.2 c53
        refine lv_bipush (v := (-9)) hx hb dX11_part_345 (by decide) ?_
        refine lv_goto (tgt := 359) hx hb dX11_part_347 (by decide) ?_
        exact eX11_part_b359_331 C hret hm0 ih hK462 σ v9 v10 (-9 : Int32) _ _ _ hf hw (lv_sub hl [0, 1, 2, 3, 4, 5] rfl)
set_option maxHeartbeats 4000000 in
set_option maxRecDepth 100000 in
theorem eX11_part_b322 {p : Program} {l : Launch} {e : Env} {s : State} {m : MethodId} {args : Array Value} {below : List Frame} {meth : Method} {c : Code} {E : EC} {lay : Nat → Nat → Nat} {L : List (Nat × Nat)} {A : Nat → Prop} (C : Cx p s m args c meth yX11_part.cls cX11_part 16 E A) (hret : meth.sig.returnType = some .int) {N : Nat} {a1 : Int32} {a2 : Int32} {a3 : Int32} {a4 : Int32} {a5 : Int32} {Q : Int32 → St → Prop} (hm0 : (11, 0) ∈ L) (σ : St) (t0 : Int64) (H : Heap) (locs : List Loc) (ls : Array Slot) (hf : fX11_part_b322 N a1 a2 a3 a4 a5 Q σ t0) (hw : Wo E lay L A s σ H locs) (hl : lv_has ls 16 [(0, .ref (lay 11 0)), (3, .int a3), (4, .int a4), (5, .int a5)]) (hz11 : (11, 0) ∈ L) : W p l e rmX11_part s m args below meth c H locs 0 0 (MQ below (va_Qi Q (Bd E lay L A) A) args s 0 0 A) (F0 m 322 ls [.long t0, .ref (lay 11 0)]) := by
  have hx := C.1
  have hb := C.2.1
  unfold fX11_part_b322 at hf
  refine x_putJ (j := 2) C hw hz11 rfl (by decide) (by decide) rfl rfl (by decide +kernel) q882 dX11_part_322 (fun σ51 H locs eσ51 hw => ?_)
  replace hf := hf σ51 eσ51
  refine lv_iconst (v := 0) hx hb dX11_part_325 (by decide) ?_
  refine lv_istore (lv' := [(9, .int (0 : Int32)), (0, .ref (lay 11 0)), (3, .int a3), (4, .int a4), (5, .int a5)]) hx hb dX11_part_326 hl (by decide) rfl (fun ls hl => ?_)
  refine lv_iconst (v := 0) hx hb dX11_part_328 (by decide) ?_
  refine lv_istore (lv' := [(10, .int (0 : Int32)), (9, .int (0 : Int32)), (0, .ref (lay 11 0)), (3, .int a3), (4, .int a4), (5, .int a5)]) hx hb dX11_part_329 hl (by decide) rfl (fun ls hl => ?_)
  refine eX11_part_l331 C hret hm0 ?_ N σ51 (0 : Int32) (0 : Int32) _ _ _ hf hw (lv_sub hl [2, 3, 4, 5, 1, 0] rfl)
  · intro σ65 u462_9 H locs ls hf hw hl
    refine lv_iload hx hb dX11_part_462 (lv_at hl 0 rfl) ?_
    exact x_iret C hret hw hf dX11_part_464
def fX11_part (N : Nat) (σ : St) (a1 : Int32) (a2 : Int32) (a3 : Int32) (a4 : Int32) (a5 : Int32) (Q : Int32 → St → Prop) : Prop := fX11_in N σ a2 (1 : Int32) (60 : Int32) (fun (r2 : Int32) (σ1 : St) => ((r2 = 0 → Q (-1 : Int32) σ1) ∧ (¬ r2 = 0 → fX11_isWriter N σ1 a3 (fun (r5 : Int32) (σ4 : St) => ((r5 = 0 → Q (-1 : Int32) σ4) ∧ (¬ r5 = 0 → fX11_isWriter N σ4 a4 (fun (r8 : Int32) (σ7 : St) => ((r8 = 0 → Q (-1 : Int32) σ7) ∧ (¬ r8 = 0 → ((a3 = a4 → Q (-1 : Int32) σ7) ∧ (¬ a3 = a4 → fX11_in N σ7 a5 (0 : Int32) (10000000 : Int32) (fun (r12 : Int32) (σ11 : St) => ((¬ r12 = 0 → fX11_askedFor N σ11 a1 (fun (r15 : Int32) (σ14 : St) => ((0 ≤ r15 → fX11_handOf N σ14 a3 a1 (fun (r18 : Int32) (σ17 : St) => fX11_handOf N σ17 a4 a1 (fun (r20 : Int32) (σ19 : St) => ((r18 = 0 → fX11_part_b86 N a1 a2 a3 a4 a5 Q σ19) ∧ (¬ r18 = 0 → ((¬ r20 = 0 → fX11_setCounts N σ19 (fun (σ25 : St) => (vp_in a1 15 ∧ (¬ a2 = 0 ∧ ∀ σ27 : St, σ27 = setF σ25 11 0 25 ((((sA σ25 75 0 (a1).toNatClampNeg) + a2) - (1 : Int32)) / a2) → (vp_in (sF σ27 11 0 25) 101 ∧ ∀ σ29 : St, σ29 = setB σ27 87 0 ((sF σ27 11 0 25)).toNatClampNeg (0 : Int64) → (vp_in (sF σ29 11 0 25) 101 ∧ ∀ σ31 : St, σ31 = setB σ29 88 0 ((sF σ29 11 0 25)).toNatClampNeg (0 : Int64) → fX11_part_l140 N a1 a2 a3 a4 a5 Q (fun (σ46 : St) => (vp_in (0 : Int32) 101 ∧ (vp_in (0 : Int32) 101 ∧ ((0 < (lg_cmp (sB σ46 87 0 ((0 : Int32)).toNatClampNeg) (sB σ46 88 0 ((0 : Int32)).toNatClampNeg)) → (vp_in (0 : Int32) 101 ∧ fX11_part_b322 N a1 a2 a3 a4 a5 Q σ46 (sB σ46 88 0 ((0 : Int32)).toNatClampNeg))) ∧ (¬ 0 < (lg_cmp (sB σ46 87 0 ((0 : Int32)).toNatClampNeg) (sB σ46 88 0 ((0 : Int32)).toNatClampNeg)) → (vp_in (0 : Int32) 101 ∧ fX11_part_b322 N a1 a2 a3 a4 a5 Q σ46 (sB σ46 87 0 ((0 : Int32)).toNatClampNeg))))))) N σ31 r18 r20 ((sF σ31 11 0 25) - (1 : Int32)))))))) ∧ (r20 = 0 → fX11_part_b86 N a1 a2 a3 a4 a5 Q σ19))))))) ∧ (¬ 0 ≤ r15 → Q r15 σ14)))) ∧ (r12 = 0 → Q (-1 : Int32) σ11))))))))))))))
set_option maxHeartbeats 4000000 in
set_option maxRecDepth 100000 in
theorem eX11_part {l : Launch} {E : EC} {lay : Nat → Nat → Nat} {L : List (Nat × Nat)} {A : Nat → Prop} {N : Nat} {σ : St} {a1 : Int32} {a2 : Int32} {a3 : Int32} {a4 : Int32} {a5 : Int32} {Q : Int32 → St → Prop} (hf : fX11_part N σ a1 a2 a3 a4 a5 Q) (hm0 : (11, 0) ∈ L) : Met l yX11_part (.code yX11_part cX11_part 16 (some .int) :: big) rmX11_part (va_Pc [.ref (lay 11 0), .int a1, .int a2, .int a3, .int a4, .int a5] (Bp E lay L A σ)) (va_Qi Q (Bd E lay L A) A) 0 0 A := by
  refine x_met (by decide +kernel) (Nat.le_of_ble_eq_true rfl) ?_
  intro p e s m args below meth c ls C hret hw hl
  have hx := C.1
  have hb := C.2.1
  have hl : lv_has ls 16 [(0, .ref (lay 11 0)), (1, .int a1), (2, .int a2), (3, .int a3), (4, .int a4), (5, .int a5)] := hl
  unfold fX11_part at hf
  refine lv_iload_n hx hb dX11_part_0 rfl (lv_at hl 2 rfl) ?_
  refine lv_iconst (v := 1) hx hb dX11_part_1 (by decide) ?_
  refine lv_bipush (v := 60) hx hb dX11_part_2 (by decide) ?_
  refine x_runi hw (x_S (n := 3) (rest := []) C hw (eX11_in hf) q984 q985 q53 q986 rfl rfl (by decide +kernel) ⟨Nat.le_of_ble_eq_true rfl, Nat.le_of_ble_eq_true rfl⟩ rfl hl.1 rfl (Nat.le_of_ble_eq_true rfl) dX11_part_4) (fun r2 σ1 H locs hf hw => ?_)
  have hzr2 := hf.2
  replace hf := hf.1
  try dsimp only at hf
  refine lv_if_eq (tgt := 42) hx hb dX11_part_7 (by decide) (fun c3 => ?_) (fun c3 => ?_)
  · replace hf := hf.1 c3
    refine lv_iconst (v := (-1)) hx hb dX11_part_42 (by decide) ?_
    exact x_iret C hret hw hf dX11_part_43
  · replace hf := hf.2 c3
    refine lv_iload_n hx hb dX11_part_10 rfl (lv_at hl 3 rfl) ?_
    refine x_runi hw (x_S (n := 1) (rest := []) C hw (eX11_isWriter hf) q1094 q1095 q53 q1096 rfl rfl (by decide +kernel) ⟨Nat.le_of_ble_eq_true rfl, Nat.le_of_ble_eq_true rfl⟩ rfl hl.1 rfl (Nat.le_of_ble_eq_true rfl) dX11_part_11) (fun r5 σ4 H locs hf hw => ?_)
    have hzr5 := hf.2
    replace hf := hf.1
    try dsimp only at hf
    refine lv_if_eq (tgt := 42) hx hb dX11_part_14 (by decide) (fun c6 => ?_) (fun c6 => ?_)
    · replace hf := hf.1 c6
      refine lv_iconst (v := (-1)) hx hb dX11_part_42 (by decide) ?_
      exact x_iret C hret hw hf dX11_part_43
    · replace hf := hf.2 c6
      refine lv_iload hx hb dX11_part_17 (lv_at hl 4 rfl) ?_
      refine x_runi hw (x_S (n := 1) (rest := []) C hw (eX11_isWriter hf) q1094 q1095 q53 q1096 rfl rfl (by decide +kernel) ⟨Nat.le_of_ble_eq_true rfl, Nat.le_of_ble_eq_true rfl⟩ rfl hl.1 rfl (Nat.le_of_ble_eq_true rfl) dX11_part_19) (fun r8 σ7 H locs hf hw => ?_)
      have hzr8 := hf.2
      replace hf := hf.1
      try dsimp only at hf
      refine lv_if_eq (tgt := 42) hx hb dX11_part_22 (by decide) (fun c9 => ?_) (fun c9 => ?_)
      · replace hf := hf.1 c9
        refine lv_iconst (v := (-1)) hx hb dX11_part_42 (by decide) ?_
        exact x_iret C hret hw hf dX11_part_43
      · replace hf := hf.2 c9
        refine lv_iload_n hx hb dX11_part_25 rfl (lv_at hl 3 rfl) ?_
        refine lv_iload hx hb dX11_part_26 (lv_at hl 4 rfl) ?_
        refine lv_icmp_eq (tgt := 42) hx hb dX11_part_28 (by decide) (fun c10 => ?_) (fun c10 => ?_)
        · replace hf := hf.1 c10
          refine lv_iconst (v := (-1)) hx hb dX11_part_42 (by decide) ?_
          exact x_iret C hret hw hf dX11_part_43
        · replace hf := hf.2 c10
          refine lv_iload hx hb dX11_part_31 (lv_at hl 5 rfl) ?_
          refine lv_iconst (v := 0) hx hb dX11_part_33 (by decide) ?_
          refine lv_ldc (v := 10000000) hx hb C.2.2.2.1 (C.2.2.2.2.1 _ q1159) dX11_part_34 ?_
          refine x_runi hw (x_S (n := 3) (rest := []) C hw (eX11_in hf) q984 q985 q53 q986 rfl rfl (by decide +kernel) ⟨Nat.le_of_ble_eq_true rfl, Nat.le_of_ble_eq_true rfl⟩ rfl hl.1 rfl (Nat.le_of_ble_eq_true rfl) dX11_part_36) (fun r12 σ11 H locs hf hw => ?_)
          have hzr12 := hf.2
          replace hf := hf.1
          try dsimp only at hf
          refine lv_if_ne (tgt := 44) hx hb dX11_part_39 (by decide) (fun c13 => ?_) (fun c13 => ?_)
          · replace hf := hf.1 c13
            refine lv_aload_n hx hb dX11_part_44 rfl (lv_at hl 0 rfl) ?_
            refine lv_iload_n hx hb dX11_part_45 rfl (lv_at hl 1 rfl) ?_
            refine x_runi hw (x_V (n := 1) (rest := []) C hw hm0 (by decide) (eX11_askedFor hf hm0) q1059 q1061 q28 q53 q1062 rfl rfl (by decide +kernel) ⟨Nat.le_of_ble_eq_true rfl, Nat.le_of_ble_eq_true rfl⟩ rfl hl.1 rfl (Nat.le_of_ble_eq_true rfl) dX11_part_46) (fun r15 σ14 H locs hf hw => ?_)
            try dsimp only at hf
            refine lv_istore (lv' := [(6, .int r15), (0, .ref (lay 11 0)), (1, .int a1), (2, .int a2), (3, .int a3), (4, .int a4), (5, .int a5)]) hx hb dX11_part_49 hl (by decide) rfl (fun ls hl => ?_)
            refine lv_iload hx hb dX11_part_51 (lv_at hl 0 rfl) ?_
            refine lv_if_ge (tgt := 59) hx hb dX11_part_53 (by decide) (fun c16 => ?_) (fun c16 => ?_)
            · replace hf := hf.1 c16
              refine lv_aload_n hx hb dX11_part_59 rfl (lv_at hl 1 rfl) ?_
              refine lv_iload_n hx hb dX11_part_60 rfl (lv_at hl 4 rfl) ?_
              refine lv_iload_n hx hb dX11_part_61 rfl (lv_at hl 2 rfl) ?_
              refine x_runi hw (x_V (n := 2) (rest := []) C hw hm0 (by decide) (eX11_handOf hf hm0) q1097 q1099 q34 q53 q1100 rfl rfl (by decide +kernel) ⟨Nat.le_of_ble_eq_true rfl, Nat.le_of_ble_eq_true rfl⟩ rfl hl.1 rfl (Nat.le_of_ble_eq_true rfl) dX11_part_62) (fun r18 σ17 H locs hf hw => ?_)
              try dsimp only at hf
              refine lv_istore (lv' := [(7, .int r18), (6, .int r15), (0, .ref (lay 11 0)), (1, .int a1), (2, .int a2), (3, .int a3), (4, .int a4), (5, .int a5)]) hx hb dX11_part_65 hl (by decide) rfl (fun ls hl => ?_)
              refine lv_aload_n hx hb dX11_part_67 rfl (lv_at hl 2 rfl) ?_
              refine lv_iload hx hb dX11_part_68 (lv_at hl 6 rfl) ?_
              refine lv_iload_n hx hb dX11_part_70 rfl (lv_at hl 3 rfl) ?_
              refine x_runi hw (x_V (n := 2) (rest := []) C hw hm0 (by decide) (eX11_handOf hf hm0) q1097 q1099 q34 q53 q1100 rfl rfl (by decide +kernel) ⟨Nat.le_of_ble_eq_true rfl, Nat.le_of_ble_eq_true rfl⟩ rfl hl.1 rfl (Nat.le_of_ble_eq_true rfl) dX11_part_71) (fun r20 σ19 H locs hf hw => ?_)
              try dsimp only at hf
              refine lv_istore (lv' := [(8, .int r20), (7, .int r18), (6, .int r15), (0, .ref (lay 11 0)), (1, .int a1), (2, .int a2), (3, .int a3), (4, .int a4), (5, .int a5)]) hx hb dX11_part_74 hl (by decide) rfl (fun ls hl => ?_)
              refine lv_iload hx hb dX11_part_76 (lv_at hl 1 rfl) ?_
              refine lv_if_eq (tgt := 86) hx hb dX11_part_78 (by decide) (fun c21 => ?_) (fun c21 => ?_)
              · replace hf := hf.1 c21
                exact eX11_part_b86 C hret hm0 σ19 _ _ _ hf hw (lv_sub hl [3] rfl)
              · replace hf := hf.2 c21
                refine lv_iload hx hb dX11_part_81 (lv_at hl 0 rfl) ?_
                refine lv_if_ne (tgt := 92) hx hb dX11_part_83 (by decide) (fun c24 => ?_) (fun c24 => ?_)
                · replace hf := hf.1 c24
                  refine lv_aload_n hx hb dX11_part_92 rfl (lv_at hl 3 rfl) ?_
                  refine x_runv hw (x_V (n := 0) (rest := []) C hw hm0 (by decide) (eX11_setCounts hf hm0) q1079 q1081 q32 q53 q1082 rfl rfl (by decide +kernel) ⟨Nat.le_of_ble_eq_true rfl, Nat.le_of_ble_eq_true rfl⟩ rfl hl.1 rfl (Nat.le_of_ble_eq_true rfl) dX11_part_93) (fun σ25 H locs hf hw => ?_)
                  try dsimp only at hf
                  refine lv_aload_n hx hb dX11_part_96 rfl (lv_at hl 3 rfl) ?_
                  refine lv_aload_n hx hb dX11_part_97 rfl (lv_at hl 3 rfl) ?_
                  have hm_26 : (75, 0) ∈ L := hw.2.2.2.1 11 0 hm0 15 (by decide) (by decide) rfl
                  refine x_get (v := .ref (lay 75 0)) (j := 15) C hw hm0 rfl (by decide) (by decide) rfl q895 dX11_part_98 ?_
                  refine lv_iload_n hx hb dX11_part_101 rfl (lv_at hl 4 rfl) ?_
                  refine x_iald C hw hm_26 (by decide) rfl hf.1 dX11_part_102 ?_
                  replace hf := hf.2
                  refine lv_iload_n hx hb dX11_part_103 rfl (lv_at hl 5 rfl) ?_
                  refine lv_iadd hx hb dX11_part_104 ?_
                  refine lv_iconst (v := 1) hx hb dX11_part_105 (by decide) ?_
                  refine lv_isub hx hb dX11_part_106 ?_
                  refine lv_iload_n hx hb dX11_part_107 rfl (lv_at hl 5 rfl) ?_
                  refine lv_idiv hx hb dX11_part_108 hf.1 ?_
                  replace hf := hf.2
                  refine x_putI (j := 25) (ty := .int) C hw hm0 rfl (by decide) (by decide) rfl rfl (by decide +kernel) rfl rfl q905 dX11_part_109 (fun σ27 H locs eσ27 hw => ?_)
                  replace hf := hf σ27 eσ27
                  refine lv_aload_n hx hb dX11_part_112 rfl (lv_at hl 3 rfl) ?_
                  have hm_28 : (87, 0) ∈ L := hw.2.2.2.1 11 0 hm0 27 (by decide) (by decide) rfl
                  refine x_get (v := .ref (lay 87 0)) (j := 27) C hw hm0 rfl (by decide) (by decide) rfl q907 dX11_part_113 ?_
                  refine lv_aload_n hx hb dX11_part_116 rfl (lv_at hl 3 rfl) ?_
                  refine x_get (v := .int (sF σ27 11 0 25)) (j := 25) C hw hm0 rfl (by decide) (by decide) rfl q905 dX11_part_117 ?_
                  refine lv_lconst (v := 0) hx hb dX11_part_120 (by decide) ?_
                  refine x_last C hw hm_28 (by decide) rfl hf.1 dX11_part_121 (fun σ29 H locs eσ29 hw => ?_)
                  replace hf := hf.2 σ29 eσ29
                  refine lv_aload_n hx hb dX11_part_122 rfl (lv_at hl 3 rfl) ?_
                  have hm_30 : (88, 0) ∈ L := hw.2.2.2.1 11 0 hm0 28 (by decide) (by decide) rfl
                  refine x_get (v := .ref (lay 88 0)) (j := 28) C hw hm0 rfl (by decide) (by decide) rfl q908 dX11_part_123 ?_
                  refine lv_aload_n hx hb dX11_part_126 rfl (lv_at hl 3 rfl) ?_
                  refine x_get (v := .int (sF σ29 11 0 25)) (j := 25) C hw hm0 rfl (by decide) (by decide) rfl q905 dX11_part_127 ?_
                  refine lv_lconst (v := 0) hx hb dX11_part_130 (by decide) ?_
                  refine x_last C hw hm_30 (by decide) rfl hf.1 dX11_part_131 (fun σ31 H locs eσ31 hw => ?_)
                  replace hf := hf.2 σ31 eσ31
                  refine lv_aload_n hx hb dX11_part_132 rfl (lv_at hl 3 rfl) ?_
                  refine x_get (v := .int (sF σ31 11 0 25)) (j := 25) C hw hm0 rfl (by decide) (by decide) rfl q905 dX11_part_133 ?_
                  refine lv_iconst (v := 1) hx hb dX11_part_136 (by decide) ?_
                  refine lv_isub hx hb dX11_part_137 ?_
                  refine lv_istore (lv' := [(9, .int ((sF σ31 11 0 25) - (1 : Int32))), (8, .int r20), (7, .int r18), (6, .int r15), (0, .ref (lay 11 0)), (1, .int a1), (2, .int a2), (3, .int a3), (4, .int a4), (5, .int a5)]) hx hb dX11_part_138 hl (by decide) rfl (fun ls hl => ?_)
                  refine eX11_part_l140 C hret hm0 ?_ N σ31 r18 r20 ((sF σ31 11 0 25) - (1 : Int32)) _ _ _ hf hw (lv_sub hl [4, 5, 6, 7, 8, 9, 2, 1, 0] rfl)
                  · intro σ46 H locs ls hf hw hl
                    refine lv_aload_n hx hb dX11_part_290 rfl (lv_at hl 0 rfl) ?_
                    refine lv_aload_n hx hb dX11_part_291 rfl (lv_at hl 0 rfl) ?_
                    have hm_47 : (87, 0) ∈ L := hw.2.2.2.1 11 0 hm0 27 (by decide) (by decide) rfl
                    refine x_get (v := .ref (lay 87 0)) (j := 27) C hw hm0 rfl (by decide) (by decide) rfl q907 dX11_part_292 ?_
                    refine lv_iconst (v := 0) hx hb dX11_part_295 (by decide) ?_
                    refine x_lald C hw hm_47 (by decide) rfl hf.1 dX11_part_296 ?_
                    replace hf := hf.2
                    refine lv_aload_n hx hb dX11_part_297 rfl (lv_at hl 0 rfl) ?_
                    have hm_48 : (88, 0) ∈ L := hw.2.2.2.1 11 0 hm0 28 (by decide) (by decide) rfl
                    refine x_get (v := .ref (lay 88 0)) (j := 28) C hw hm0 rfl (by decide) (by decide) rfl q908 dX11_part_298 ?_
                    refine lv_iconst (v := 0) hx hb dX11_part_301 (by decide) ?_
                    refine x_lald C hw hm_48 (by decide) rfl hf.1 dX11_part_302 ?_
                    replace hf := hf.2
                    refine W.lcmp hx hb dX11_part_303 ?_
                    refine lv_if_gt (tgt := 316) hx hb dX11_part_304 (by decide) (fun c49 => ?_) (fun c49 => ?_)
                    · replace hf := hf.1 c49
                      refine lv_aload_n hx hb dX11_part_316 rfl (lv_at hl 0 rfl) ?_
                      have hm_50 : (88, 0) ∈ L := hw.2.2.2.1 11 0 hm0 28 (by decide) (by decide) rfl
                      refine x_get (v := .ref (lay 88 0)) (j := 28) C hw hm0 rfl (by decide) (by decide) rfl q908 dX11_part_317 ?_
                      refine lv_iconst (v := 0) hx hb dX11_part_320 (by decide) ?_
                      refine x_lald C hw hm_50 (by decide) rfl hf.1 dX11_part_321 ?_
                      replace hf := hf.2
                      exact eX11_part_b322 C hret hm0 σ46 (sB σ46 88 0 ((0 : Int32)).toNatClampNeg) _ _ _ hf hw (lv_sub hl [0, 1, 2, 3] rfl) hm0
                    · replace hf := hf.2 c49
                      refine lv_aload_n hx hb dX11_part_307 rfl (lv_at hl 0 rfl) ?_
                      have hm_66 : (87, 0) ∈ L := hw.2.2.2.1 11 0 hm0 27 (by decide) (by decide) rfl
                      refine x_get (v := .ref (lay 87 0)) (j := 27) C hw hm0 rfl (by decide) (by decide) rfl q907 dX11_part_308 ?_
                      refine lv_iconst (v := 0) hx hb dX11_part_311 (by decide) ?_
                      refine x_lald C hw hm_66 (by decide) rfl hf.1 dX11_part_312 ?_
                      replace hf := hf.2
                      refine lv_goto (tgt := 322) hx hb dX11_part_313 (by decide) ?_
                      exact eX11_part_b322 C hret hm0 σ46 (sB σ46 87 0 ((0 : Int32)).toNatClampNeg) _ _ _ hf hw (lv_sub hl [0, 1, 2, 3] rfl) hm0
                · replace hf := hf.2 c24
                  exact eX11_part_b86 C hret hm0 σ19 _ _ _ hf hw (lv_sub hl [3] rfl)
            · replace hf := hf.2 c16
              refine lv_iload hx hb dX11_part_56 (lv_at hl 0 rfl) ?_
              exact x_iret C hret hw hf dX11_part_58
          · replace hf := hf.2 c13
            refine lv_iconst (v := (-1)) hx hb dX11_part_42 (by decide) ?_
            exact x_iret C hret hw hf dX11_part_43
-- X11_window
abbrev rmX11_window : Room := { frames := 1, cells := 0, slots := 0, locals := 22 }
def fX11_window (N : Nat) (σ : St) (a1 : Int32) (Q : Int32 → St → Prop) : Prop := fX11_in N σ a1 (0 : Int32) ((sF σ 11 0 25) - (1 : Int32)) (fun (r2 : Int32) (σ1 : St) => ((r2 = 0 → Q (-9 : Int32) σ1) ∧ (¬ r2 = 0 → (vp_in a1 100 ∧ Q (sA σ1 86 0 (a1).toNatClampNeg) σ1))))
set_option maxHeartbeats 4000000 in
set_option maxRecDepth 100000 in
theorem eX11_window {l : Launch} {E : EC} {lay : Nat → Nat → Nat} {L : List (Nat × Nat)} {A : Nat → Prop} {N : Nat} {σ : St} {a1 : Int32} {Q : Int32 → St → Prop} (hf : fX11_window N σ a1 Q) (hm0 : (11, 0) ∈ L) : Met l yX11_window (.code yX11_window cX11_window 2 (some .int) :: big) rmX11_window (va_Pc [.ref (lay 11 0), .int a1] (Bp E lay L A σ)) (va_Qi Q (Bd E lay L A) A) 0 0 A := by
  refine x_met (by decide +kernel) (Nat.le_of_ble_eq_true rfl) ?_
  intro p e s m args below meth c ls C hret hw hl
  have hx := C.1
  have hb := C.2.1
  have hl : lv_has ls 2 [(0, .ref (lay 11 0)), (1, .int a1)] := hl
  unfold fX11_window at hf
  refine lv_iload_n hx hb dX11_window_0 rfl (lv_at hl 1 rfl) ?_
  refine lv_iconst (v := 0) hx hb dX11_window_1 (by decide) ?_
  refine lv_aload_n hx hb dX11_window_2 rfl (lv_at hl 0 rfl) ?_
  refine x_get (v := .int (sF σ 11 0 25)) (j := 25) C hw hm0 rfl (by decide) (by decide) rfl q905 dX11_window_3 ?_
  refine lv_iconst (v := 1) hx hb dX11_window_6 (by decide) ?_
  refine lv_isub hx hb dX11_window_7 ?_
  refine x_runi hw (x_S (n := 3) (rest := []) C hw (eX11_in hf) q984 q985 q53 q986 rfl rfl (by decide +kernel) ⟨Nat.le_of_ble_eq_true rfl, Nat.le_of_ble_eq_true rfl⟩ rfl hl.1 rfl (Nat.le_of_ble_eq_true rfl) dX11_window_8) (fun r2 σ1 H locs hf hw => ?_)
  have hzr2 := hf.2
  replace hf := hf.1
  try dsimp only at hf
  refine lv_if_eq (tgt := 23) hx hb dX11_window_11 (by decide) (fun c3 => ?_) (fun c3 => ?_)
  · replace hf := hf.1 c3
    refine lv_bipush (v := (-9)) hx hb dX11_window_23 (by decide) ?_
    exact x_iret C hret hw hf dX11_window_25
  · replace hf := hf.2 c3
    refine lv_aload_n hx hb dX11_window_14 rfl (lv_at hl 0 rfl) ?_
    have hm_4 : (86, 0) ∈ L := hw.2.2.2.1 11 0 hm0 26 (by decide) (by decide) rfl
    refine x_get (v := .ref (lay 86 0)) (j := 26) C hw hm0 rfl (by decide) (by decide) rfl q906 dX11_window_15 ?_
    refine lv_iload_n hx hb dX11_window_18 rfl (lv_at hl 1 rfl) ?_
    refine x_iald C hw hm_4 (by decide) rfl hf.1 dX11_window_19 ?_
    replace hf := hf.2
    refine lv_goto (tgt := 25) hx hb dX11_window_20 (by decide) ?_
    exact x_iret C hret hw hf dX11_window_25
