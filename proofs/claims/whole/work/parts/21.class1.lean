-- X1_nearestTo
abbrev rmX1_nearestTo : Room := { frames := 3, cells := 0, slots := 0, locals := 70 }
def fX1_nearestTo_b65_10 (N : Nat) (a1 : Nat) (a3 : Int32) (Q : Int32 → St → Prop) (Kh : St → Int32 → Int32 → Int32 → Prop) (Kx71 : St → Int32 → Prop) (σ : St) (v4 : Int32) (v5 : Int32) (v6 : Int32) : Prop := Kh σ v4 v5 (v6 + (1 : Int32))
def fX1_nearestTo_b57_10 (N : Nat) (a1 : Nat) (a3 : Int32) (Q : Int32 → St → Prop) (Kh : St → Int32 → Int32 → Int32 → Prop) (Kx71 : St → Int32 → Prop) (σ : St) (v6 : Int32) (v7 : Int32) : Prop := fX1_nearestTo_b65_10 N a1 a3 Q Kh Kx71 σ v6 v7 v6
def fX1_nearestTo_l10 (N : Nat) (a1 : Nat) (a3 : Int32) (Q : Int32 → St → Prop) (Kx71 : St → Int32 → Prop) : Nat → St → Int32 → Int32 → Int32 → Prop
  | 0, _, _, _, _ => False
  | n + 1, σ, v4, v5, v6 => (((6 : Int32) ≤ v6 → Kx71 σ v4) ∧ (¬ (6 : Int32) ≤ v6 → fX1_has N σ v6 (fun (r3 : Int32) (σ2 : St) => ((¬ r3 = 0 → fX1_farnessOf N σ2 v6 a1 a3 (fun (r6 : Int32) (σ5 : St) => ((v4 = (-9 : Int32) → fX1_nearestTo_b57_10 N a1 a3 Q (fun (σ : St) (w4 : Int32) (w5 : Int32) (w6 : Int32) => fX1_nearestTo_l10 N a1 a3 Q Kx71 n σ w4 w5 w6) Kx71 σ5 v6 r6) ∧ (¬ v4 = (-9 : Int32) → ((r6 < v5 → fX1_nearestTo_b57_10 N a1 a3 Q (fun (σ : St) (w4 : Int32) (w5 : Int32) (w6 : Int32) => fX1_nearestTo_l10 N a1 a3 Q Kx71 n σ w4 w5 w6) Kx71 σ5 v6 r6) ∧ (¬ r6 < v5 → fX1_nearestTo_b65_10 N a1 a3 Q (fun (σ : St) (w4 : Int32) (w5 : Int32) (w6 : Int32) => fX1_nearestTo_l10 N a1 a3 Q Kx71 n σ w4 w5 w6) Kx71 σ5 v4 v5 v6)))))) ∧ (r3 = 0 → fX1_nearestTo_b65_10 N a1 a3 Q (fun (σ : St) (w4 : Int32) (w5 : Int32) (w6 : Int32) => fX1_nearestTo_l10 N a1 a3 Q Kx71 n σ w4 w5 w6) Kx71 σ2 v4 v5 v6)))))
set_option maxHeartbeats 4000000 in
set_option maxRecDepth 100000 in
theorem eX1_nearestTo_b65_10 {p : Program} {l : Launch} {e : Env} {s : State} {m : MethodId} {args : Array Value} {below : List Frame} {meth : Method} {c : Code} {E : EC} {lay : Nat → Nat → Nat} {L : List (Nat × Nat)} {A : Nat → Prop} (C : Cx p s m args c meth yX1_nearestTo.cls cX1_nearestTo 8 E A) (hret : meth.sig.returnType = some .int) {N : Nat} {a1 : Nat} {a3 : Int32} {Q : Int32 → St → Prop} {Kh : St → Int32 → Int32 → Int32 → Prop} {Kx71 : St → Int32 → Prop} (hm0 : (1, 0) ∈ L) (hm1 : (23, a1) ∈ L) (hm2 : (2, 0) ∈ L) (hKh : ∀ (σ : St) (w4 : Int32) (w5 : Int32) (w6 : Int32) (H : Heap) (locs : List Loc) (ls : Array Slot), Kh σ w4 w5 w6 → Wo E lay L A s σ H locs → lv_has ls 8 [(0, .ref (lay 1 0)), (1, .ref (lay 23 a1)), (2, .ref (lay 2 0)), (3, .int a3), (4, .int w4), (5, .int w5), (6, .int w6)] → W p l e rmX1_nearestTo s m args below meth c H locs 0 0 (MQ below (va_Qi Q (Bd E lay L A) A) args s 0 0 A) (F0 m 10 ls [])) (hK71 : ∀ (σ : St) (w4 : Int32) (H : Heap) (locs : List Loc) (ls : Array Slot), Kx71 σ w4 → Wo E lay L A s σ H locs → lv_has ls 8 [(4, .int w4)] → W p l e rmX1_nearestTo s m args below meth c H locs 0 0 (MQ below (va_Qi Q (Bd E lay L A) A) args s 0 0 A) (F0 m 71 ls [])) (σ : St) (v4 : Int32) (v5 : Int32) (v6 : Int32) (H : Heap) (locs : List Loc) (ls : Array Slot) (hf : fX1_nearestTo_b65_10 N a1 a3 Q Kh Kx71 σ v4 v5 v6) (hw : Wo E lay L A s σ H locs) (hl : lv_has ls 8 [(0, .ref (lay 1 0)), (1, .ref (lay 23 a1)), (2, .ref (lay 2 0)), (3, .int a3), (4, .int v4), (5, .int v5), (6, .int v6)]) : W p l e rmX1_nearestTo s m args below meth c H locs 0 0 (MQ below (va_Qi Q (Bd E lay L A) A) args s 0 0 A) (F0 m 65 ls []) := by
  have hx := C.1
  have hb := C.2.1
  unfold fX1_nearestTo_b65_10 at hf
  refine lv_iinc (v := (v6 + (1 : Int32))) (lv' := [(6, .int (v6 + (1 : Int32))), (0, .ref (lay 1 0)), (1, .ref (lay 23 a1)), (2, .ref (lay 2 0)), (3, .int a3), (4, .int v4), (5, .int v5)]) hx hb dX1_nearestTo_65 hl (k := 6) rfl (by rfl) (by decide) rfl (fun ls hl => ?_)
  refine lv_goto (tgt := 10) hx hb dX1_nearestTo_68 (by decide) ?_
  exact hKh σ v4 v5 (v6 + (1 : Int32)) _ _ _ hf hw (lv_sub hl [1, 2, 3, 4, 5, 6, 0] rfl)
set_option maxHeartbeats 4000000 in
set_option maxRecDepth 100000 in
theorem eX1_nearestTo_b57_10 {p : Program} {l : Launch} {e : Env} {s : State} {m : MethodId} {args : Array Value} {below : List Frame} {meth : Method} {c : Code} {E : EC} {lay : Nat → Nat → Nat} {L : List (Nat × Nat)} {A : Nat → Prop} (C : Cx p s m args c meth yX1_nearestTo.cls cX1_nearestTo 8 E A) (hret : meth.sig.returnType = some .int) {N : Nat} {a1 : Nat} {a3 : Int32} {Q : Int32 → St → Prop} {Kh : St → Int32 → Int32 → Int32 → Prop} {Kx71 : St → Int32 → Prop} (hm0 : (1, 0) ∈ L) (hm1 : (23, a1) ∈ L) (hm2 : (2, 0) ∈ L) (hKh : ∀ (σ : St) (w4 : Int32) (w5 : Int32) (w6 : Int32) (H : Heap) (locs : List Loc) (ls : Array Slot), Kh σ w4 w5 w6 → Wo E lay L A s σ H locs → lv_has ls 8 [(0, .ref (lay 1 0)), (1, .ref (lay 23 a1)), (2, .ref (lay 2 0)), (3, .int a3), (4, .int w4), (5, .int w5), (6, .int w6)] → W p l e rmX1_nearestTo s m args below meth c H locs 0 0 (MQ below (va_Qi Q (Bd E lay L A) A) args s 0 0 A) (F0 m 10 ls [])) (hK71 : ∀ (σ : St) (w4 : Int32) (H : Heap) (locs : List Loc) (ls : Array Slot), Kx71 σ w4 → Wo E lay L A s σ H locs → lv_has ls 8 [(4, .int w4)] → W p l e rmX1_nearestTo s m args below meth c H locs 0 0 (MQ below (va_Qi Q (Bd E lay L A) A) args s 0 0 A) (F0 m 71 ls [])) (σ : St) (v6 : Int32) (v7 : Int32) (H : Heap) (locs : List Loc) (ls : Array Slot) (hf : fX1_nearestTo_b57_10 N a1 a3 Q Kh Kx71 σ v6 v7) (hw : Wo E lay L A s σ H locs) (hl : lv_has ls 8 [(0, .ref (lay 1 0)), (1, .ref (lay 23 a1)), (2, .ref (lay 2 0)), (3, .int a3), (6, .int v6), (7, .int v7)]) : W p l e rmX1_nearestTo s m args below meth c H locs 0 0 (MQ below (va_Qi Q (Bd E lay L A) A) args s 0 0 A) (F0 m 57 ls []) := by
  have hx := C.1
  have hb := C.2.1
  unfold fX1_nearestTo_b57_10 at hf
  refine lv_iload hx hb dX1_nearestTo_57 (lv_at hl 4 rfl) ?_
  refine lv_istore (lv' := [(4, .int v6), (0, .ref (lay 1 0)), (1, .ref (lay 23 a1)), (2, .ref (lay 2 0)), (3, .int a3), (6, .int v6), (7, .int v7)]) hx hb dX1_nearestTo_59 hl (by decide) rfl (fun ls hl => ?_)
  refine lv_iload hx hb dX1_nearestTo_61 (lv_at hl 6 rfl) ?_
  refine lv_istore (lv' := [(5, .int v7), (4, .int v6), (0, .ref (lay 1 0)), (1, .ref (lay 23 a1)), (2, .ref (lay 2 0)), (3, .int a3), (6, .int v6), (7, .int v7)]) hx hb dX1_nearestTo_63 hl (by decide) rfl (fun ls hl => ?_)
  exact eX1_nearestTo_b65_10 C hret hm0 hm1 hm2 hKh hK71 σ v6 v7 v6 _ _ _ hf hw (lv_sub hl [2, 3, 4, 5, 1, 0, 6] rfl)
set_option maxHeartbeats 4000000 in
set_option maxRecDepth 100000 in
theorem eX1_nearestTo_l10 {p : Program} {l : Launch} {e : Env} {s : State} {m : MethodId} {args : Array Value} {below : List Frame} {meth : Method} {c : Code} {E : EC} {lay : Nat → Nat → Nat} {L : List (Nat × Nat)} {A : Nat → Prop} (C : Cx p s m args c meth yX1_nearestTo.cls cX1_nearestTo 8 E A) (hret : meth.sig.returnType = some .int) {N : Nat} {a1 : Nat} {a3 : Int32} {Q : Int32 → St → Prop} {Kx71 : St → Int32 → Prop} (hm0 : (1, 0) ∈ L) (hm1 : (23, a1) ∈ L) (hm2 : (2, 0) ∈ L) (hK71 : ∀ (σ : St) (w4 : Int32) (H : Heap) (locs : List Loc) (ls : Array Slot), Kx71 σ w4 → Wo E lay L A s σ H locs → lv_has ls 8 [(4, .int w4)] → W p l e rmX1_nearestTo s m args below meth c H locs 0 0 (MQ below (va_Qi Q (Bd E lay L A) A) args s 0 0 A) (F0 m 71 ls [])) : ∀ (n : Nat) (σ : St) (v4 : Int32) (v5 : Int32) (v6 : Int32) (H : Heap) (locs : List Loc) (ls : Array Slot), fX1_nearestTo_l10 N a1 a3 Q Kx71 n σ v4 v5 v6 → Wo E lay L A s σ H locs → lv_has ls 8 [(0, .ref (lay 1 0)), (1, .ref (lay 23 a1)), (2, .ref (lay 2 0)), (3, .int a3), (4, .int v4), (5, .int v5), (6, .int v6)] → W p l e rmX1_nearestTo s m args below meth c H locs 0 0 (MQ below (va_Qi Q (Bd E lay L A) A) args s 0 0 A) (F0 m 10 ls []) := by
  have hx := C.1
  have hb := C.2.1
  intro n
  induction n with
  | zero => intro σ v4 v5 v6 H locs ls hf; exact hf.elim
  | succ n ih =>
    intro σ v4 v5 v6 H locs ls hf hw hl
    rw [fX1_nearestTo_l10] at hf
    refine lv_iload hx hb dX1_nearestTo_10 (lv_at hl 6 rfl) ?_
    refine lv_bipush (v := 6) hx hb dX1_nearestTo_12 (by decide) ?_
    refine lv_icmp_ge (tgt := 71) hx hb dX1_nearestTo_14 (by decide) (fun c1 => ?_) (fun c1 => ?_)
    · replace hf := hf.1 c1
      exact hK71 σ v4 _ _ _ hf hw (lv_sub hl [4] rfl)
    · replace hf := hf.2 c1
      refine lv_aload_n hx hb dX1_nearestTo_17 rfl (lv_at hl 0 rfl) ?_
      refine lv_iload hx hb dX1_nearestTo_18 (lv_at hl 6 rfl) ?_
      refine x_runi hw (x_V (n := 1) (rest := []) C hw hm0 (by decide) (eX1_has hf hm0) q641 q634 q635 q46 q636 rfl rfl (by decide +kernel) ⟨Nat.le_of_ble_eq_true rfl, Nat.le_of_ble_eq_true rfl⟩ rfl hl.1 rfl (Nat.le_of_ble_eq_true rfl) dX1_nearestTo_20) (fun r3 σ2 H locs hf hw => ?_)
      have hzr3 := hf.2
      replace hf := hf.1
      try dsimp only at hf
      refine lv_if_ne (tgt := 29) hx hb dX1_nearestTo_23 (by decide) (fun c4 => ?_) (fun c4 => ?_)
      · replace hf := hf.1 c4
        refine lv_aload_n hx hb dX1_nearestTo_29 rfl (lv_at hl 0 rfl) ?_
        refine lv_iload hx hb dX1_nearestTo_30 (lv_at hl 6 rfl) ?_
        refine lv_aload_n hx hb dX1_nearestTo_32 rfl (lv_at hl 1 rfl) ?_
        refine lv_aload_n hx hb dX1_nearestTo_33 rfl (lv_at hl 2 rfl) ?_
        refine lv_iload_n hx hb dX1_nearestTo_34 rfl (lv_at hl 3 rfl) ?_
        refine x_runi hw (x_V (n := 4) (rest := []) C hw hm0 (by decide) (eX1_farnessOf hf hm0 hm1 hm2) q687 q671 q672 q46 q673 rfl rfl (by decide +kernel) ⟨Nat.le_of_ble_eq_true rfl, Nat.le_of_ble_eq_true rfl⟩ rfl hl.1 rfl (Nat.le_of_ble_eq_true rfl) dX1_nearestTo_35) (fun r6 σ5 H locs hf hw => ?_)
        try dsimp only at hf
        refine lv_istore (lv' := [(7, .int r6), (0, .ref (lay 1 0)), (1, .ref (lay 23 a1)), (2, .ref (lay 2 0)), (3, .int a3), (4, .int v4), (5, .int v5), (6, .int v6)]) hx hb dX1_nearestTo_38 hl (by decide) rfl (fun ls hl => ?_)
        refine lv_iload hx hb dX1_nearestTo_40 (lv_at hl 5 rfl) ?_
        refine lv_bipush (v := (-9)) hx hb dX1_nearestTo_42 (by decide) ?_
        refine lv_icmp_eq (tgt := 57) hx hb dX1_nearestTo_44 (by decide) (fun c7 => ?_) (fun c7 => ?_)
        · replace hf := hf.1 c7
          exact eX1_nearestTo_b57_10 C hret hm0 hm1 hm2 ih hK71 σ5 v6 r6 _ _ _ hf hw (lv_sub hl [1, 2, 3, 4, 7, 0] rfl)
        · replace hf := hf.2 c7
          refine lv_iload hx hb dX1_nearestTo_47 (lv_at hl 0 rfl) ?_
          refine lv_iload hx hb dX1_nearestTo_49 (lv_at hl 6 rfl) ?_
          refine lv_icmp_lt (tgt := 57) hx hb dX1_nearestTo_51 (by decide) (fun c8 => ?_) (fun c8 => ?_)
          · replace hf := hf.1 c8
            exact eX1_nearestTo_b57_10 C hret hm0 hm1 hm2 ih hK71 σ5 v6 r6 _ _ _ hf hw (lv_sub hl [1, 2, 3, 4, 7, 0] rfl)
          · replace hf := hf.2 c8
            refine lv_goto (tgt := 65) hx hb dX1_nearestTo_54 (by decide) ?_
            exact eX1_nearestTo_b65_10 C hret hm0 hm1 hm2 ih hK71 σ5 v4 v5 v6 _ _ _ hf hw (lv_sub hl [1, 2, 3, 4, 5, 6, 7] rfl)
      · replace hf := hf.2 c4
        refine lv_goto (tgt := 65) hx hb dX1_nearestTo_26 (by decide) ?_
        exact eX1_nearestTo_b65_10 C hret hm0 hm1 hm2 ih hK71 σ2 v4 v5 v6 _ _ _ hf hw (lv_sub hl [0, 1, 2, 3, 4, 5, 6] rfl)
def fX1_nearestTo (N : Nat) (σ : St) (a1 : Nat) (a3 : Int32) (Q : Int32 → St → Prop) : Prop := fX1_nearestTo_l10 N a1 a3 Q (fun (σ9 : St) (u71_4 : Int32) => Q u71_4 σ9) N σ (-9 : Int32) (0 : Int32) (0 : Int32)
set_option maxHeartbeats 4000000 in
set_option maxRecDepth 100000 in
theorem eX1_nearestTo {l : Launch} {E : EC} {lay : Nat → Nat → Nat} {L : List (Nat × Nat)} {A : Nat → Prop} {N : Nat} {σ : St} {a1 : Nat} {a3 : Int32} {Q : Int32 → St → Prop} (hf : fX1_nearestTo N σ a1 a3 Q) (hm0 : (1, 0) ∈ L) (hm1 : (23, a1) ∈ L) (hm2 : (2, 0) ∈ L) : Met l yX1_nearestTo (.code yX1_nearestTo cX1_nearestTo 8 (some .int) :: big) rmX1_nearestTo (va_Pc [.ref (lay 1 0), .ref (lay 23 a1), .ref (lay 2 0), .int a3] (Bp E lay L A σ)) (va_Qi Q (Bd E lay L A) A) 0 0 A := by
  refine x_met (by decide +kernel) (Nat.le_of_ble_eq_true rfl) ?_
  intro p e s m args below meth c ls C hret hw hl
  have hx := C.1
  have hb := C.2.1
  have hl : lv_has ls 8 [(0, .ref (lay 1 0)), (1, .ref (lay 23 a1)), (2, .ref (lay 2 0)), (3, .int a3)] := hl
  unfold fX1_nearestTo at hf
  refine lv_bipush (v := (-9)) hx hb dX1_nearestTo_0 (by decide) ?_
  refine lv_istore (lv' := [(4, .int (-9 : Int32)), (0, .ref (lay 1 0)), (1, .ref (lay 23 a1)), (2, .ref (lay 2 0)), (3, .int a3)]) hx hb dX1_nearestTo_2 hl (by decide) rfl (fun ls hl => ?_)
  refine lv_iconst (v := 0) hx hb dX1_nearestTo_4 (by decide) ?_
  refine lv_istore (lv' := [(5, .int (0 : Int32)), (4, .int (-9 : Int32)), (0, .ref (lay 1 0)), (1, .ref (lay 23 a1)), (2, .ref (lay 2 0)), (3, .int a3)]) hx hb dX1_nearestTo_5 hl (by decide) rfl (fun ls hl => ?_)
  refine lv_iconst (v := 0) hx hb dX1_nearestTo_7 (by decide) ?_
  refine lv_istore (lv' := [(6, .int (0 : Int32)), (5, .int (0 : Int32)), (4, .int (-9 : Int32)), (0, .ref (lay 1 0)), (1, .ref (lay 23 a1)), (2, .ref (lay 2 0)), (3, .int a3)]) hx hb dX1_nearestTo_8 hl (by decide) rfl (fun ls hl => ?_)
  refine eX1_nearestTo_l10 C hret hm0 hm1 hm2 ?_ N σ (-9 : Int32) (0 : Int32) (0 : Int32) _ _ _ hf hw (lv_sub hl [3, 4, 5, 6, 2, 1, 0] rfl)
  · intro σ9 u71_4 H locs ls hf hw hl
    refine lv_iload hx hb dX1_nearestTo_71 (lv_at hl 0 rfl) ?_
    exact x_iret C hret hw hf dX1_nearestTo_73
-- X1_placeOf
abbrev rmX1_placeOf : Room := { frames := 3, cells := 0, slots := 0, locals := 70 }
def fX1_placeOf_b75_16 (N : Nat) (a1 : Int32) (a2 : Nat) (Q : Int32 → St → Prop) (Kh : St → Int32 → Int32 → Int32 → Prop) (Kx81 : St → Int32 → Prop) (σ : St) (v4 : Int32) (v5 : Int32) (v6 : Int32) : Prop := Kh σ v4 v5 (v6 + (1 : Int32))
def fX1_placeOf_b72_16 (N : Nat) (a1 : Int32) (a2 : Nat) (Q : Int32 → St → Prop) (Kh : St → Int32 → Int32 → Int32 → Prop) (Kx81 : St → Int32 → Prop) (σ : St) (v4 : Int32) (v5 : Int32) (v6 : Int32) : Prop := fX1_placeOf_b75_16 N a1 a2 Q Kh Kx81 σ v4 (v5 + (1 : Int32)) v6
def fX1_placeOf_l16 (N : Nat) (a1 : Int32) (a2 : Nat) (Q : Int32 → St → Prop) (Kx81 : St → Int32 → Prop) : Nat → St → Int32 → Int32 → Int32 → Prop
  | 0, _, _, _, _ => False
  | n + 1, σ, v4, v5, v6 => (((6 : Int32) ≤ v6 → Kx81 σ v5) ∧ (¬ (6 : Int32) ≤ v6 → fX1_has N σ v6 (fun (r5 : Int32) (σ4 : St) => ((r5 = 0 → fX1_placeOf_b75_16 N a1 a2 Q (fun (σ : St) (w4 : Int32) (w5 : Int32) (w6 : Int32) => fX1_placeOf_l16 N a1 a2 Q Kx81 n σ w4 w5 w6) Kx81 σ4 v4 v5 v6) ∧ (¬ r5 = 0 → ((¬ v6 = a1 → fX1_farnessOf N σ4 v6 a2 (-1 : Int32) (fun (r9 : Int32) (σ8 : St) => ((r9 < v4 → fX1_placeOf_b72_16 N a1 a2 Q (fun (σ : St) (w4 : Int32) (w5 : Int32) (w6 : Int32) => fX1_placeOf_l16 N a1 a2 Q Kx81 n σ w4 w5 w6) Kx81 σ8 v4 v5 v6) ∧ (¬ r9 < v4 → ((¬ r9 = v4 → fX1_placeOf_b75_16 N a1 a2 Q (fun (σ : St) (w4 : Int32) (w5 : Int32) (w6 : Int32) => fX1_placeOf_l16 N a1 a2 Q Kx81 n σ w4 w5 w6) Kx81 σ8 v4 v5 v6) ∧ (r9 = v4 → ((a1 ≤ v6 → fX1_placeOf_b75_16 N a1 a2 Q (fun (σ : St) (w4 : Int32) (w5 : Int32) (w6 : Int32) => fX1_placeOf_l16 N a1 a2 Q Kx81 n σ w4 w5 w6) Kx81 σ8 v4 v5 v6) ∧ (¬ a1 ≤ v6 → fX1_placeOf_b72_16 N a1 a2 Q (fun (σ : St) (w4 : Int32) (w5 : Int32) (w6 : Int32) => fX1_placeOf_l16 N a1 a2 Q Kx81 n σ w4 w5 w6) Kx81 σ8 v4 v5 v6)))))))) ∧ (v6 = a1 → fX1_placeOf_b75_16 N a1 a2 Q (fun (σ : St) (w4 : Int32) (w5 : Int32) (w6 : Int32) => fX1_placeOf_l16 N a1 a2 Q Kx81 n σ w4 w5 w6) Kx81 σ4 v4 v5 v6)))))))
set_option maxHeartbeats 4000000 in
set_option maxRecDepth 100000 in
theorem eX1_placeOf_b75_16 {p : Program} {l : Launch} {e : Env} {s : State} {m : MethodId} {args : Array Value} {below : List Frame} {meth : Method} {c : Code} {E : EC} {lay : Nat → Nat → Nat} {L : List (Nat × Nat)} {A : Nat → Prop} (C : Cx p s m args c meth yX1_placeOf.cls cX1_placeOf 8 E A) (hret : meth.sig.returnType = some .int) {N : Nat} {a1 : Int32} {a2 : Nat} {Q : Int32 → St → Prop} {Kh : St → Int32 → Int32 → Int32 → Prop} {Kx81 : St → Int32 → Prop} (hm0 : (1, 0) ∈ L) (hm2 : (23, a2) ∈ L) (hm3 : (2, 0) ∈ L) (hKh : ∀ (σ : St) (w4 : Int32) (w5 : Int32) (w6 : Int32) (H : Heap) (locs : List Loc) (ls : Array Slot), Kh σ w4 w5 w6 → Wo E lay L A s σ H locs → lv_has ls 8 [(0, .ref (lay 1 0)), (1, .int a1), (2, .ref (lay 23 a2)), (3, .ref (lay 2 0)), (4, .int w4), (5, .int w5), (6, .int w6)] → W p l e rmX1_placeOf s m args below meth c H locs 0 0 (MQ below (va_Qi Q (Bd E lay L A) A) args s 0 0 A) (F0 m 16 ls [])) (hK81 : ∀ (σ : St) (w5 : Int32) (H : Heap) (locs : List Loc) (ls : Array Slot), Kx81 σ w5 → Wo E lay L A s σ H locs → lv_has ls 8 [(5, .int w5)] → W p l e rmX1_placeOf s m args below meth c H locs 0 0 (MQ below (va_Qi Q (Bd E lay L A) A) args s 0 0 A) (F0 m 81 ls [])) (σ : St) (v4 : Int32) (v5 : Int32) (v6 : Int32) (H : Heap) (locs : List Loc) (ls : Array Slot) (hf : fX1_placeOf_b75_16 N a1 a2 Q Kh Kx81 σ v4 v5 v6) (hw : Wo E lay L A s σ H locs) (hl : lv_has ls 8 [(0, .ref (lay 1 0)), (1, .int a1), (2, .ref (lay 23 a2)), (3, .ref (lay 2 0)), (4, .int v4), (5, .int v5), (6, .int v6)]) : W p l e rmX1_placeOf s m args below meth c H locs 0 0 (MQ below (va_Qi Q (Bd E lay L A) A) args s 0 0 A) (F0 m 75 ls []) := by
  have hx := C.1
  have hb := C.2.1
  unfold fX1_placeOf_b75_16 at hf
  refine lv_iinc (v := (v6 + (1 : Int32))) (lv' := [(6, .int (v6 + (1 : Int32))), (0, .ref (lay 1 0)), (1, .int a1), (2, .ref (lay 23 a2)), (3, .ref (lay 2 0)), (4, .int v4), (5, .int v5)]) hx hb dX1_placeOf_75 hl (k := 6) rfl (by rfl) (by decide) rfl (fun ls hl => ?_)
  refine lv_goto (tgt := 16) hx hb dX1_placeOf_78 (by decide) ?_
  exact hKh σ v4 v5 (v6 + (1 : Int32)) _ _ _ hf hw (lv_sub hl [1, 2, 3, 4, 5, 6, 0] rfl)
set_option maxHeartbeats 4000000 in
set_option maxRecDepth 100000 in
theorem eX1_placeOf_b72_16 {p : Program} {l : Launch} {e : Env} {s : State} {m : MethodId} {args : Array Value} {below : List Frame} {meth : Method} {c : Code} {E : EC} {lay : Nat → Nat → Nat} {L : List (Nat × Nat)} {A : Nat → Prop} (C : Cx p s m args c meth yX1_placeOf.cls cX1_placeOf 8 E A) (hret : meth.sig.returnType = some .int) {N : Nat} {a1 : Int32} {a2 : Nat} {Q : Int32 → St → Prop} {Kh : St → Int32 → Int32 → Int32 → Prop} {Kx81 : St → Int32 → Prop} (hm0 : (1, 0) ∈ L) (hm2 : (23, a2) ∈ L) (hm3 : (2, 0) ∈ L) (hKh : ∀ (σ : St) (w4 : Int32) (w5 : Int32) (w6 : Int32) (H : Heap) (locs : List Loc) (ls : Array Slot), Kh σ w4 w5 w6 → Wo E lay L A s σ H locs → lv_has ls 8 [(0, .ref (lay 1 0)), (1, .int a1), (2, .ref (lay 23 a2)), (3, .ref (lay 2 0)), (4, .int w4), (5, .int w5), (6, .int w6)] → W p l e rmX1_placeOf s m args below meth c H locs 0 0 (MQ below (va_Qi Q (Bd E lay L A) A) args s 0 0 A) (F0 m 16 ls [])) (hK81 : ∀ (σ : St) (w5 : Int32) (H : Heap) (locs : List Loc) (ls : Array Slot), Kx81 σ w5 → Wo E lay L A s σ H locs → lv_has ls 8 [(5, .int w5)] → W p l e rmX1_placeOf s m args below meth c H locs 0 0 (MQ below (va_Qi Q (Bd E lay L A) A) args s 0 0 A) (F0 m 81 ls [])) (σ : St) (v4 : Int32) (v5 : Int32) (v6 : Int32) (H : Heap) (locs : List Loc) (ls : Array Slot) (hf : fX1_placeOf_b72_16 N a1 a2 Q Kh Kx81 σ v4 v5 v6) (hw : Wo E lay L A s σ H locs) (hl : lv_has ls 8 [(0, .ref (lay 1 0)), (1, .int a1), (2, .ref (lay 23 a2)), (3, .ref (lay 2 0)), (4, .int v4), (5, .int v5), (6, .int v6)]) : W p l e rmX1_placeOf s m args below meth c H locs 0 0 (MQ below (va_Qi Q (Bd E lay L A) A) args s 0 0 A) (F0 m 72 ls []) := by
  have hx := C.1
  have hb := C.2.1
  unfold fX1_placeOf_b72_16 at hf
  refine lv_iinc (v := (v5 + (1 : Int32))) (lv' := [(5, .int (v5 + (1 : Int32))), (0, .ref (lay 1 0)), (1, .int a1), (2, .ref (lay 23 a2)), (3, .ref (lay 2 0)), (4, .int v4), (6, .int v6)]) hx hb dX1_placeOf_72 hl (k := 5) rfl (by rfl) (by decide) rfl (fun ls hl => ?_)
  exact eX1_placeOf_b75_16 C hret hm0 hm2 hm3 hKh hK81 σ v4 (v5 + (1 : Int32)) v6 _ _ _ hf hw (lv_sub hl [1, 2, 3, 4, 5, 0, 6] rfl)
set_option maxHeartbeats 4000000 in
set_option maxRecDepth 100000 in
theorem eX1_placeOf_l16 {p : Program} {l : Launch} {e : Env} {s : State} {m : MethodId} {args : Array Value} {below : List Frame} {meth : Method} {c : Code} {E : EC} {lay : Nat → Nat → Nat} {L : List (Nat × Nat)} {A : Nat → Prop} (C : Cx p s m args c meth yX1_placeOf.cls cX1_placeOf 8 E A) (hret : meth.sig.returnType = some .int) {N : Nat} {a1 : Int32} {a2 : Nat} {Q : Int32 → St → Prop} {Kx81 : St → Int32 → Prop} (hm0 : (1, 0) ∈ L) (hm2 : (23, a2) ∈ L) (hm3 : (2, 0) ∈ L) (hK81 : ∀ (σ : St) (w5 : Int32) (H : Heap) (locs : List Loc) (ls : Array Slot), Kx81 σ w5 → Wo E lay L A s σ H locs → lv_has ls 8 [(5, .int w5)] → W p l e rmX1_placeOf s m args below meth c H locs 0 0 (MQ below (va_Qi Q (Bd E lay L A) A) args s 0 0 A) (F0 m 81 ls [])) : ∀ (n : Nat) (σ : St) (v4 : Int32) (v5 : Int32) (v6 : Int32) (H : Heap) (locs : List Loc) (ls : Array Slot), fX1_placeOf_l16 N a1 a2 Q Kx81 n σ v4 v5 v6 → Wo E lay L A s σ H locs → lv_has ls 8 [(0, .ref (lay 1 0)), (1, .int a1), (2, .ref (lay 23 a2)), (3, .ref (lay 2 0)), (4, .int v4), (5, .int v5), (6, .int v6)] → W p l e rmX1_placeOf s m args below meth c H locs 0 0 (MQ below (va_Qi Q (Bd E lay L A) A) args s 0 0 A) (F0 m 16 ls []) := by
  have hx := C.1
  have hb := C.2.1
  intro n
  induction n with
  | zero => intro σ v4 v5 v6 H locs ls hf; exact hf.elim
  | succ n ih =>
    intro σ v4 v5 v6 H locs ls hf hw hl
    rw [fX1_placeOf_l16] at hf
    refine lv_iload hx hb dX1_placeOf_16 (lv_at hl 6 rfl) ?_
    refine lv_bipush (v := 6) hx hb dX1_placeOf_18 (by decide) ?_
    refine lv_icmp_ge (tgt := 81) hx hb dX1_placeOf_20 (by decide) (fun c3 => ?_) (fun c3 => ?_)
    · replace hf := hf.1 c3
      exact hK81 σ v5 _ _ _ hf hw (lv_sub hl [5] rfl)
    · replace hf := hf.2 c3
      refine lv_aload_n hx hb dX1_placeOf_23 rfl (lv_at hl 0 rfl) ?_
      refine lv_iload hx hb dX1_placeOf_24 (lv_at hl 6 rfl) ?_
      refine x_runi hw (x_V (n := 1) (rest := []) C hw hm0 (by decide) (eX1_has hf hm0) q641 q634 q635 q46 q636 rfl rfl (by decide +kernel) ⟨Nat.le_of_ble_eq_true rfl, Nat.le_of_ble_eq_true rfl⟩ rfl hl.1 rfl (Nat.le_of_ble_eq_true rfl) dX1_placeOf_26) (fun r5 σ4 H locs hf hw => ?_)
      have hzr5 := hf.2
      replace hf := hf.1
      try dsimp only at hf
      refine lv_if_eq (tgt := 75) hx hb dX1_placeOf_29 (by decide) (fun c6 => ?_) (fun c6 => ?_)
      · replace hf := hf.1 c6
        exact eX1_placeOf_b75_16 C hret hm0 hm2 hm3 ih hK81 σ4 v4 v5 v6 _ _ _ hf hw (lv_sub hl [0, 1, 2, 3, 4, 5, 6] rfl)
      · replace hf := hf.2 c6
        refine lv_iload hx hb dX1_placeOf_32 (lv_at hl 6 rfl) ?_
        refine lv_iload_n hx hb dX1_placeOf_34 rfl (lv_at hl 1 rfl) ?_
        refine lv_icmp_ne (tgt := 41) hx hb dX1_placeOf_35 (by decide) (fun c7 => ?_) (fun c7 => ?_)
        · replace hf := hf.1 c7
          refine lv_aload_n hx hb dX1_placeOf_41 rfl (lv_at hl 0 rfl) ?_
          refine lv_iload hx hb dX1_placeOf_42 (lv_at hl 6 rfl) ?_
          refine lv_aload_n hx hb dX1_placeOf_44 rfl (lv_at hl 2 rfl) ?_
          refine lv_aload_n hx hb dX1_placeOf_45 rfl (lv_at hl 3 rfl) ?_
          refine lv_iconst (v := (-1)) hx hb dX1_placeOf_46 (by decide) ?_
          refine x_runi hw (x_V (n := 4) (rest := []) C hw hm0 (by decide) (eX1_farnessOf hf hm0 hm2 hm3) q687 q671 q672 q46 q673 rfl rfl (by decide +kernel) ⟨Nat.le_of_ble_eq_true rfl, Nat.le_of_ble_eq_true rfl⟩ rfl hl.1 rfl (Nat.le_of_ble_eq_true rfl) dX1_placeOf_47) (fun r9 σ8 H locs hf hw => ?_)
          try dsimp only at hf
          refine lv_istore (lv' := [(7, .int r9), (0, .ref (lay 1 0)), (1, .int a1), (2, .ref (lay 23 a2)), (3, .ref (lay 2 0)), (4, .int v4), (5, .int v5), (6, .int v6)]) hx hb dX1_placeOf_50 hl (by decide) rfl (fun ls hl => ?_)
          refine lv_iload hx hb dX1_placeOf_52 (lv_at hl 0 rfl) ?_
          refine lv_iload hx hb dX1_placeOf_54 (lv_at hl 5 rfl) ?_
          refine lv_icmp_lt (tgt := 72) hx hb dX1_placeOf_56 (by decide) (fun c10 => ?_) (fun c10 => ?_)
          · replace hf := hf.1 c10
            exact eX1_placeOf_b72_16 C hret hm0 hm2 hm3 ih hK81 σ8 v4 v5 v6 _ _ _ hf hw (lv_sub hl [1, 2, 3, 4, 5, 6, 7] rfl)
          · replace hf := hf.2 c10
            refine lv_iload hx hb dX1_placeOf_59 (lv_at hl 0 rfl) ?_
            refine lv_iload hx hb dX1_placeOf_61 (lv_at hl 5 rfl) ?_
            refine lv_icmp_ne (tgt := 75) hx hb dX1_placeOf_63 (by decide) (fun c11 => ?_) (fun c11 => ?_)
            · replace hf := hf.1 c11
              exact eX1_placeOf_b75_16 C hret hm0 hm2 hm3 ih hK81 σ8 v4 v5 v6 _ _ _ hf hw (lv_sub hl [1, 2, 3, 4, 5, 6, 7] rfl)
            · replace hf := hf.2 c11
              refine lv_iload hx hb dX1_placeOf_66 (lv_at hl 7 rfl) ?_
              refine lv_iload_n hx hb dX1_placeOf_68 rfl (lv_at hl 2 rfl) ?_
              refine lv_icmp_ge (tgt := 75) hx hb dX1_placeOf_69 (by decide) (fun c12 => ?_) (fun c12 => ?_)
              · replace hf := hf.1 c12
                exact eX1_placeOf_b75_16 C hret hm0 hm2 hm3 ih hK81 σ8 v4 v5 v6 _ _ _ hf hw (lv_sub hl [1, 2, 3, 4, 5, 6, 7] rfl)
              · replace hf := hf.2 c12
                exact eX1_placeOf_b72_16 C hret hm0 hm2 hm3 ih hK81 σ8 v4 v5 v6 _ _ _ hf hw (lv_sub hl [1, 2, 3, 4, 5, 6, 7] rfl)
        · replace hf := hf.2 c7
          refine lv_goto (tgt := 75) hx hb dX1_placeOf_38 (by decide) ?_
          exact eX1_placeOf_b75_16 C hret hm0 hm2 hm3 ih hK81 σ4 v4 v5 v6 _ _ _ hf hw (lv_sub hl [0, 1, 2, 3, 4, 5, 6] rfl)
def fX1_placeOf (N : Nat) (σ : St) (a1 : Int32) (a2 : Nat) (Q : Int32 → St → Prop) : Prop := fX1_farnessOf N σ a1 a2 (-1 : Int32) (fun (r2 : Int32) (σ1 : St) => fX1_placeOf_l16 N a1 a2 Q (fun (σ13 : St) (u81_5 : Int32) => Q u81_5 σ13) N σ1 r2 (0 : Int32) (0 : Int32))
set_option maxHeartbeats 4000000 in
set_option maxRecDepth 100000 in
theorem eX1_placeOf {l : Launch} {E : EC} {lay : Nat → Nat → Nat} {L : List (Nat × Nat)} {A : Nat → Prop} {N : Nat} {σ : St} {a1 : Int32} {a2 : Nat} {Q : Int32 → St → Prop} (hf : fX1_placeOf N σ a1 a2 Q) (hm0 : (1, 0) ∈ L) (hm2 : (23, a2) ∈ L) (hm3 : (2, 0) ∈ L) : Met l yX1_placeOf (.code yX1_placeOf cX1_placeOf 8 (some .int) :: big) rmX1_placeOf (va_Pc [.ref (lay 1 0), .int a1, .ref (lay 23 a2), .ref (lay 2 0)] (Bp E lay L A σ)) (va_Qi Q (Bd E lay L A) A) 0 0 A := by
  refine x_met (by decide +kernel) (Nat.le_of_ble_eq_true rfl) ?_
  intro p e s m args below meth c ls C hret hw hl
  have hx := C.1
  have hb := C.2.1
  have hl : lv_has ls 8 [(0, .ref (lay 1 0)), (1, .int a1), (2, .ref (lay 23 a2)), (3, .ref (lay 2 0))] := hl
  unfold fX1_placeOf at hf
  refine lv_aload_n hx hb dX1_placeOf_0 rfl (lv_at hl 0 rfl) ?_
  refine lv_iload_n hx hb dX1_placeOf_1 rfl (lv_at hl 1 rfl) ?_
  refine lv_aload_n hx hb dX1_placeOf_2 rfl (lv_at hl 2 rfl) ?_
  refine lv_aload_n hx hb dX1_placeOf_3 rfl (lv_at hl 3 rfl) ?_
  refine lv_iconst (v := (-1)) hx hb dX1_placeOf_4 (by decide) ?_
  refine x_runi hw (x_V (n := 4) (rest := []) C hw hm0 (by decide) (eX1_farnessOf hf hm0 hm2 hm3) q687 q671 q672 q46 q673 rfl rfl (by decide +kernel) ⟨Nat.le_of_ble_eq_true rfl, Nat.le_of_ble_eq_true rfl⟩ rfl hl.1 rfl (Nat.le_of_ble_eq_true rfl) dX1_placeOf_5) (fun r2 σ1 H locs hf hw => ?_)
  try dsimp only at hf
  refine lv_istore (lv' := [(4, .int r2), (0, .ref (lay 1 0)), (1, .int a1), (2, .ref (lay 23 a2)), (3, .ref (lay 2 0))]) hx hb dX1_placeOf_8 hl (by decide) rfl (fun ls hl => ?_)
  refine lv_iconst (v := 0) hx hb dX1_placeOf_10 (by decide) ?_
  refine lv_istore (lv' := [(5, .int (0 : Int32)), (4, .int r2), (0, .ref (lay 1 0)), (1, .int a1), (2, .ref (lay 23 a2)), (3, .ref (lay 2 0))]) hx hb dX1_placeOf_11 hl (by decide) rfl (fun ls hl => ?_)
  refine lv_iconst (v := 0) hx hb dX1_placeOf_13 (by decide) ?_
  refine lv_istore (lv' := [(6, .int (0 : Int32)), (5, .int (0 : Int32)), (4, .int r2), (0, .ref (lay 1 0)), (1, .int a1), (2, .ref (lay 23 a2)), (3, .ref (lay 2 0))]) hx hb dX1_placeOf_14 hl (by decide) rfl (fun ls hl => ?_)
  refine eX1_placeOf_l16 C hret hm0 hm2 hm3 ?_ N σ1 r2 (0 : Int32) (0 : Int32) _ _ _ hf hw (lv_sub hl [3, 4, 5, 6, 2, 1, 0] rfl)
  · intro σ13 u81_5 H locs ls hf hw hl
    refine lv_iload hx hb dX1_placeOf_81 (lv_at hl 0 rfl) ?_
    exact x_iret C hret hw hf dX1_placeOf_83
-- X2_isFull
abbrev rmX2_isFull : Room := { frames := 0, cells := 0, slots := 0, locals := 0 }
def fX2_isFull (N : Nat) (σ : St) (Q : Int32 → St → Prop) : Prop := (((sF σ 2 0 2) < (12 : Int32) → Q (0 : Int32) σ) ∧ (¬ (sF σ 2 0 2) < (12 : Int32) → Q (1 : Int32) σ))
set_option maxHeartbeats 4000000 in
set_option maxRecDepth 100000 in
theorem eX2_isFull {l : Launch} {E : EC} {lay : Nat → Nat → Nat} {L : List (Nat × Nat)} {A : Nat → Prop} {N : Nat} {σ : St} {Q : Int32 → St → Prop} (hf : fX2_isFull N σ Q) (hm0 : (2, 0) ∈ L) : Met l yX2_isFull (.code yX2_isFull cX2_isFull 1 (some .boolean) :: big) rmX2_isFull (va_Pc [.ref (lay 2 0)] (Bp E lay L A σ)) (va_Qi (fun r u => Q r u ∧ narrow .boolean (.int r) = .int r) (Bd E lay L A) A) 0 0 A := by
  refine x_met (by decide +kernel) (Nat.le_of_ble_eq_true rfl) ?_
  intro p e s m args below meth c ls C hret hw hl
  have hx := C.1
  have hb := C.2.1
  have hl : lv_has ls 1 [(0, .ref (lay 2 0))] := hl
  unfold fX2_isFull at hf
  refine lv_aload_n hx hb dX2_isFull_0 rfl (lv_at hl 0 rfl) ?_
  refine x_get (v := .int (sF σ 2 0 2)) (j := 2) C hw hm0 rfl (by decide) (by decide) rfl q80 dX2_isFull_1 ?_
  refine lv_aload_n hx hb dX2_isFull_4 rfl (lv_at hl 0 rfl) ?_
  have hm_1 : (30, 0) ∈ L := hw.2.2.2.1 2 0 hm0 0 (by decide) (by decide) rfl
  refine x_get (v := .ref (lay 30 0)) (j := 0) C hw hm0 rfl (by decide) (by decide) rfl q78 dX2_isFull_5 ?_
  refine x_alen (v := 12) C hw hm_1 (by decide) (by decide) (by decide) dX2_isFull_8 ?_
  refine lv_icmp_lt (tgt := 16) hx hb dX2_isFull_9 (by decide) (fun c2 => ?_) (fun c2 => ?_)
  · replace hf := hf.1 c2
    refine lv_iconst (v := 0) hx hb dX2_isFull_16 (by decide) ?_
    exact x_zret C hret (by decide) hw ⟨hf, by decide⟩ dX2_isFull_17
  · replace hf := hf.2 c2
    refine lv_iconst (v := 1) hx hb dX2_isFull_12 (by decide) ?_
    refine lv_goto (tgt := 17) hx hb dX2_isFull_13 (by decide) ?_
    exact x_zret C hret (by decide) hw ⟨hf, by decide⟩ dX2_isFull_17
-- X2_has
abbrev rmX2_has : Room := { frames := 0, cells := 0, slots := 0, locals := 0 }
def fX2_has (N : Nat) (σ : St) (a1 : Int32) (Q : Int32 → St → Prop) : Prop := ((a1 < 0 → Q (0 : Int32) σ) ∧ (¬ a1 < 0 → (((sF σ 2 0 2) ≤ a1 → Q (0 : Int32) σ) ∧ (¬ (sF σ 2 0 2) ≤ a1 → Q (1 : Int32) σ))))
set_option maxHeartbeats 4000000 in
set_option maxRecDepth 100000 in
theorem eX2_has {l : Launch} {E : EC} {lay : Nat → Nat → Nat} {L : List (Nat × Nat)} {A : Nat → Prop} {N : Nat} {σ : St} {a1 : Int32} {Q : Int32 → St → Prop} (hf : fX2_has N σ a1 Q) (hm0 : (2, 0) ∈ L) : Met l yX2_has (.code yX2_has cX2_has 2 (some .boolean) :: big) rmX2_has (va_Pc [.ref (lay 2 0), .int a1] (Bp E lay L A σ)) (va_Qi (fun r u => Q r u ∧ narrow .boolean (.int r) = .int r) (Bd E lay L A) A) 0 0 A := by
  refine x_met (by decide +kernel) (Nat.le_of_ble_eq_true rfl) ?_
  intro p e s m args below meth c ls C hret hw hl
  have hx := C.1
  have hb := C.2.1
  have hl : lv_has ls 2 [(0, .ref (lay 2 0)), (1, .int a1)] := hl
  unfold fX2_has at hf
  refine lv_iload_n hx hb dX2_has_0 rfl (lv_at hl 1 rfl) ?_
  refine lv_if_lt (tgt := 16) hx hb dX2_has_1 (by decide) (fun c1 => ?_) (fun c1 => ?_)
  · replace hf := hf.1 c1
    refine lv_iconst (v := 0) hx hb dX2_has_16 (by decide) ?_
    exact x_zret C hret (by decide) hw ⟨hf, by decide⟩ dX2_has_17
  · replace hf := hf.2 c1
    refine lv_iload_n hx hb dX2_has_4 rfl (lv_at hl 1 rfl) ?_
    refine lv_aload_n hx hb dX2_has_5 rfl (lv_at hl 0 rfl) ?_
    refine x_get (v := .int (sF σ 2 0 2)) (j := 2) C hw hm0 rfl (by decide) (by decide) rfl q80 dX2_has_6 ?_
    refine lv_icmp_ge (tgt := 16) hx hb dX2_has_9 (by decide) (fun c2 => ?_) (fun c2 => ?_)
    · replace hf := hf.1 c2
      refine lv_iconst (v := 0) hx hb dX2_has_16 (by decide) ?_
      exact x_zret C hret (by decide) hw ⟨hf, by decide⟩ dX2_has_17
    · replace hf := hf.2 c2
      refine lv_iconst (v := 1) hx hb dX2_has_12 (by decide) ?_
      refine lv_goto (tgt := 17) hx hb dX2_has_13 (by decide) ?_
      exact x_zret C hret (by decide) hw ⟨hf, by decide⟩ dX2_has_17
-- X2_featureAt
abbrev rmX2_featureAt : Room := { frames := 0, cells := 0, slots := 0, locals := 0 }
def fX2_featureAt_b22 (N : Nat) (a1 : Int32) (Q : Option Nat → St → Prop) (σ : St) : Prop := Q none σ
set_option maxHeartbeats 4000000 in
set_option maxRecDepth 100000 in
theorem eX2_featureAt_b22 {p : Program} {l : Launch} {e : Env} {s : State} {m : MethodId} {args : Array Value} {below : List Frame} {meth : Method} {c : Code} {E : EC} {lay : Nat → Nat → Nat} {L : List (Nat × Nat)} {A : Nat → Prop} (C : Cx p s m args c meth yX2_featureAt.cls cX2_featureAt 2 E A) (hret : meth.sig.returnType = some (.object "WhoseHand$Feature")) {N : Nat} {a1 : Int32} {Q : Option Nat → St → Prop} (hm0 : (2, 0) ∈ L) (σ : St) (H : Heap) (locs : List Loc) (ls : Array Slot) (hf : fX2_featureAt_b22 N a1 Q σ) (hw : Wo E lay L A s σ H locs) (hl : lv_has ls 2 []) : W p l e rmX2_featureAt s m args below meth c H locs 0 0 (MQ below (va_Qq (Qo lay L 0 Q) (Bd E lay L A) A) args s 0 0 A) (F0 m 22 ls []) := by
  have hx := C.1
  have hb := C.2.1
  unfold fX2_featureAt_b22 at hf
  refine lv_null hx hb dX2_featureAt_22 ?_
  exact x_aret (K := 0) (r := none) C hret hw rfl (fun i h => by cases h) hf dX2_featureAt_23
def fX2_featureAt (N : Nat) (σ : St) (a1 : Int32) (Q : Option Nat → St → Prop) : Prop := ((a1 < 0 → fX2_featureAt_b22 N a1 Q σ) ∧ (¬ a1 < 0 → (((12 : Int32) ≤ a1 → fX2_featureAt_b22 N a1 Q σ) ∧ (¬ (12 : Int32) ≤ a1 → (vp_in a1 12 ∧ Q (sR σ 30 0 (a1).toNatClampNeg) σ)))))
set_option maxHeartbeats 4000000 in
set_option maxRecDepth 100000 in
theorem eX2_featureAt {l : Launch} {E : EC} {lay : Nat → Nat → Nat} {L : List (Nat × Nat)} {A : Nat → Prop} {N : Nat} {σ : St} {a1 : Int32} {Q : Option Nat → St → Prop} (hf : fX2_featureAt N σ a1 Q) (hm0 : (2, 0) ∈ L) : Met l yX2_featureAt (.code yX2_featureAt cX2_featureAt 2 (some (.object "WhoseHand$Feature")) :: big) rmX2_featureAt (va_Pc [.ref (lay 2 0), .int a1] (Bp E lay L A σ)) (va_Qq (Qo lay L 0 Q) (Bd E lay L A) A) 0 0 A := by
  refine x_met (by decide +kernel) (Nat.le_of_ble_eq_true rfl) ?_
  intro p e s m args below meth c ls C hret hw hl
  have hx := C.1
  have hb := C.2.1
  have hl : lv_has ls 2 [(0, .ref (lay 2 0)), (1, .int a1)] := hl
  unfold fX2_featureAt at hf
  refine lv_iload_n hx hb dX2_featureAt_0 rfl (lv_at hl 1 rfl) ?_
  refine lv_if_lt (tgt := 22) hx hb dX2_featureAt_1 (by decide) (fun c1 => ?_) (fun c1 => ?_)
  · replace hf := hf.1 c1
    exact eX2_featureAt_b22 C hret hm0 σ _ _ _ hf hw (lv_sub hl [] rfl)
  · replace hf := hf.2 c1
    refine lv_iload_n hx hb dX2_featureAt_4 rfl (lv_at hl 1 rfl) ?_
    refine lv_aload_n hx hb dX2_featureAt_5 rfl (lv_at hl 0 rfl) ?_
    have hm_2 : (30, 0) ∈ L := hw.2.2.2.1 2 0 hm0 0 (by decide) (by decide) rfl
    refine x_get (v := .ref (lay 30 0)) (j := 0) C hw hm0 rfl (by decide) (by decide) rfl q78 dX2_featureAt_6 ?_
    refine x_alen (v := 12) C hw hm_2 (by decide) (by decide) (by decide) dX2_featureAt_9 ?_
    refine lv_icmp_ge (tgt := 22) hx hb dX2_featureAt_10 (by decide) (fun c3 => ?_) (fun c3 => ?_)
    · replace hf := hf.1 c3
      exact eX2_featureAt_b22 C hret hm0 σ _ _ _ hf hw (lv_sub hl [] rfl)
    · replace hf := hf.2 c3
      refine lv_aload_n hx hb dX2_featureAt_13 rfl (lv_at hl 0 rfl) ?_
      have hm_4 : (30, 0) ∈ L := hw.2.2.2.1 2 0 hm0 0 (by decide) (by decide) rfl
      refine x_get (v := .ref (lay 30 0)) (j := 0) C hw hm0 rfl (by decide) (by decide) rfl q78 dX2_featureAt_14 ?_
      refine lv_iload_n hx hb dX2_featureAt_17 rfl (lv_at hl 1 rfl) ?_
      have hO_5 : ∀ i, (sR σ 30 0 (a1).toNatClampNeg) = some i → (0, i) ∈ L := fun i h => hw.2.2.2.2 30 _ _ i h
      refine x_aald (t := 6) (T := 0) C hw hm_4 (by decide) rfl (by decide) rfl hf.1 rfl dX2_featureAt_18 ?_
      replace hf := hf.2
      refine lv_goto (tgt := 23) hx hb dX2_featureAt_19 (by decide) ?_
      exact x_aret (K := 0) (r := (sR σ 30 0 (a1).toNatClampNeg)) C hret hw rfl hO_5 hf dX2_featureAt_23
-- X7_setCount
abbrev rmX7_setCount : Room := { frames := 0, cells := 0, slots := 0, locals := 0 }
def fX7_setCount (N : Nat) (σ : St) (a0 : Nat) (a1 : Int32) (a2 : Int32) (Q : St → Prop) : Prop := ((a1 < 0 → Q σ) ∧ (¬ a1 < 0 → (((12 : Int32) ≤ a1 → Q σ) ∧ (¬ (12 : Int32) ≤ a1 → (vp_in a1 12 ∧ ∀ σ5 : St, σ5 = setA σ 29 a0 (a1).toNatClampNeg a2 → Q σ5)))))
set_option maxHeartbeats 4000000 in
set_option maxRecDepth 100000 in
theorem eX7_setCount {l : Launch} {E : EC} {lay : Nat → Nat → Nat} {L : List (Nat × Nat)} {A : Nat → Prop} {N : Nat} {σ : St} {a0 : Nat} {a1 : Int32} {a2 : Int32} {Q : St → Prop} (hf : fX7_setCount N σ a0 a1 a2 Q) (hm0 : (7, a0) ∈ L) : Met l yX7_setCount (.code yX7_setCount cX7_setCount 3 (none) :: big) rmX7_setCount (va_Pc [.ref (lay 7 a0), .int a1, .int a2] (Bp E lay L A σ)) (va_Qv Q (Bd E lay L A) A) 0 0 A := by
  refine x_met (by decide +kernel) (Nat.le_of_ble_eq_true rfl) ?_
  intro p e s m args below meth c ls C hret hw hl
  have hx := C.1
  have hb := C.2.1
  have hl : lv_has ls 3 [(0, .ref (lay 7 a0)), (1, .int a1), (2, .int a2)] := hl
  unfold fX7_setCount at hf
  refine lv_iload_n hx hb dX7_setCount_0 rfl (lv_at hl 1 rfl) ?_
  refine lv_if_lt (tgt := 20) hx hb dX7_setCount_1 (by decide) (fun c1 => ?_) (fun c1 => ?_)
  · replace hf := hf.1 c1
    exact x_vret C hret hw hf dX7_setCount_20
  · replace hf := hf.2 c1
    refine lv_iload_n hx hb dX7_setCount_4 rfl (lv_at hl 1 rfl) ?_
    refine lv_aload_n hx hb dX7_setCount_5 rfl (lv_at hl 0 rfl) ?_
    have hm_2 : (29, a0) ∈ L := hw.2.2.2.1 7 a0 hm0 0 (by decide) (by decide) rfl
    refine x_get (v := .ref (lay 29 a0)) (j := 0) C hw hm0 rfl (by decide) (by decide) rfl q108 dX7_setCount_6 ?_
    refine x_alen (v := 12) C hw hm_2 (by decide) (by decide) (by decide) dX7_setCount_9 ?_
    refine lv_icmp_ge (tgt := 20) hx hb dX7_setCount_10 (by decide) (fun c3 => ?_) (fun c3 => ?_)
    · replace hf := hf.1 c3
      exact x_vret C hret hw hf dX7_setCount_20
    · replace hf := hf.2 c3
      refine lv_aload_n hx hb dX7_setCount_13 rfl (lv_at hl 0 rfl) ?_
      have hm_4 : (29, a0) ∈ L := hw.2.2.2.1 7 a0 hm0 0 (by decide) (by decide) rfl
      refine x_get (v := .ref (lay 29 a0)) (j := 0) C hw hm0 rfl (by decide) (by decide) rfl q108 dX7_setCount_14 ?_
      refine lv_iload_n hx hb dX7_setCount_17 rfl (lv_at hl 1 rfl) ?_
      refine lv_iload_n hx hb dX7_setCount_18 rfl (lv_at hl 2 rfl) ?_
      refine x_iast C hw hm_4 (by decide) rfl hf.1 dX7_setCount_19 (fun σ5 H locs eσ5 hw => ?_)
      replace hf := hf.2 σ5 eσ5
      exact x_vret C hret hw hf dX7_setCount_20
-- X2_take
abbrev rmX2_take : Room := { frames := 5, cells := 0, slots := 0, locals := 115 }
def fX2_take_b80_43 (N : Nat) (a1 : Nat) (Q : Int32 → St → Prop) (Kh : St → Int32 → Prop) (Kx86 : St → Prop) (σ : St) (v3 : Int32) : Prop := Kh σ (v3 + (1 : Int32))
def fX2_take_l43 (N : Nat) (a1 : Nat) (Q : Int32 → St → Prop) (Kx86 : St → Prop) : Nat → St → Int32 → Prop
  | 0, _, _ => False
  | n + 1, σ, v3 => (((14 : Int32) ≤ v3 → Kx86 σ) ∧ (¬ (14 : Int32) ≤ v3 → (vp_in v3 14 ∧ (((sR σ 21 0 (v3).toNatClampNeg) = none → fX2_take_b80_43 N a1 Q (fun (σ : St) (w3 : Int32) => fX2_take_l43 N a1 Q Kx86 n σ w3) Kx86 σ v3) ∧ (∀ i11, (sR σ 21 0 (v3).toNatClampNeg) = some i11 → fX0_countIn N σ a1 i11 (fun (r16 : Int32) (σ15 : St) => fX7_setCount N σ15 i11 (sF σ 2 0 2) r16 (fun (σ17 : St) => fX2_take_b80_43 N a1 Q (fun (σ : St) (w3 : Int32) => fX2_take_l43 N a1 Q Kx86 n σ w3) Kx86 σ17 v3)))))))
def fX2_take_b40 (N : Nat) (a1 : Nat) (Q : Int32 → St → Prop) (σ : St) (t0 : Int32) (t1 : Int32) (t2 : Nat) : Prop := (vp_in t1 12 ∧ ∀ σ8 : St, σ8 = setA σ 31 t2 (t1).toNatClampNeg (vp_nar .boolean t0) → fX2_take_l43 N a1 Q (fun (σ18 : St) => ∀ σ19 : St, σ19 = setF σ18 2 0 2 ((sF σ18 2 0 2) + (1 : Int32)) → Q (sF σ18 2 0 2) σ19) N σ8 (0 : Int32))
set_option maxHeartbeats 4000000 in
set_option maxRecDepth 100000 in
theorem eX2_take_b80_43 {p : Program} {l : Launch} {e : Env} {s : State} {m : MethodId} {args : Array Value} {below : List Frame} {meth : Method} {c : Code} {E : EC} {lay : Nat → Nat → Nat} {L : List (Nat × Nat)} {A : Nat → Prop} (C : Cx p s m args c meth yX2_take.cls cX2_take 5 E A) (hret : meth.sig.returnType = some .int) {N : Nat} {a1 : Nat} {Q : Int32 → St → Prop} {Kh : St → Int32 → Prop} {Kx86 : St → Prop} (hm0 : (2, 0) ∈ L) (hm1 : (0, a1) ∈ L) (hm2 : (21, 0) ∈ L) (hKh : ∀ (σ : St) (w3 : Int32) (H : Heap) (locs : List Loc) (ls : Array Slot), Kh σ w3 → Wo E lay L A s σ H locs → lv_has ls 5 [(0, .ref (lay 2 0)), (1, .ref (lay 0 a1)), (2, .ref (lay 21 0)), (3, .int w3)] → W p l e rmX2_take s m args below meth c H locs 0 0 (MQ below (va_Qi Q (Bd E lay L A) A) args s 0 0 A) (F0 m 43 ls [])) (hK86 : ∀ (σ : St) (H : Heap) (locs : List Loc) (ls : Array Slot), Kx86 σ → Wo E lay L A s σ H locs → lv_has ls 5 [(0, .ref (lay 2 0))] → W p l e rmX2_take s m args below meth c H locs 0 0 (MQ below (va_Qi Q (Bd E lay L A) A) args s 0 0 A) (F0 m 86 ls [])) (σ : St) (v3 : Int32) (H : Heap) (locs : List Loc) (ls : Array Slot) (hf : fX2_take_b80_43 N a1 Q Kh Kx86 σ v3) (hw : Wo E lay L A s σ H locs) (hl : lv_has ls 5 [(0, .ref (lay 2 0)), (1, .ref (lay 0 a1)), (2, .ref (lay 21 0)), (3, .int v3)]) : W p l e rmX2_take s m args below meth c H locs 0 0 (MQ below (va_Qi Q (Bd E lay L A) A) args s 0 0 A) (F0 m 80 ls []) := by
  have hx := C.1
  have hb := C.2.1
  unfold fX2_take_b80_43 at hf
  refine lv_iinc (v := (v3 + (1 : Int32))) (lv' := [(3, .int (v3 + (1 : Int32))), (0, .ref (lay 2 0)), (1, .ref (lay 0 a1)), (2, .ref (lay 21 0))]) hx hb dX2_take_80 hl (k := 3) rfl (by rfl) (by decide) rfl (fun ls hl => ?_)
  refine lv_goto (tgt := 43) hx hb dX2_take_83 (by decide) ?_
  exact hKh σ (v3 + (1 : Int32)) _ _ _ hf hw (lv_sub hl [1, 2, 3, 0] rfl)
set_option maxHeartbeats 4000000 in
set_option maxRecDepth 100000 in
theorem eX2_take_l43 {p : Program} {l : Launch} {e : Env} {s : State} {m : MethodId} {args : Array Value} {below : List Frame} {meth : Method} {c : Code} {E : EC} {lay : Nat → Nat → Nat} {L : List (Nat × Nat)} {A : Nat → Prop} (C : Cx p s m args c meth yX2_take.cls cX2_take 5 E A) (hret : meth.sig.returnType = some .int) {N : Nat} {a1 : Nat} {Q : Int32 → St → Prop} {Kx86 : St → Prop} (hm0 : (2, 0) ∈ L) (hm1 : (0, a1) ∈ L) (hm2 : (21, 0) ∈ L) (hK86 : ∀ (σ : St) (H : Heap) (locs : List Loc) (ls : Array Slot), Kx86 σ → Wo E lay L A s σ H locs → lv_has ls 5 [(0, .ref (lay 2 0))] → W p l e rmX2_take s m args below meth c H locs 0 0 (MQ below (va_Qi Q (Bd E lay L A) A) args s 0 0 A) (F0 m 86 ls [])) : ∀ (n : Nat) (σ : St) (v3 : Int32) (H : Heap) (locs : List Loc) (ls : Array Slot), fX2_take_l43 N a1 Q Kx86 n σ v3 → Wo E lay L A s σ H locs → lv_has ls 5 [(0, .ref (lay 2 0)), (1, .ref (lay 0 a1)), (2, .ref (lay 21 0)), (3, .int v3)] → W p l e rmX2_take s m args below meth c H locs 0 0 (MQ below (va_Qi Q (Bd E lay L A) A) args s 0 0 A) (F0 m 43 ls []) := by
  have hx := C.1
  have hb := C.2.1
  intro n
  induction n with
  | zero => intro σ v3 H locs ls hf; exact hf.elim
  | succ n ih =>
    intro σ v3 H locs ls hf hw hl
    rw [fX2_take_l43] at hf
    refine lv_iload_n hx hb dX2_take_43 rfl (lv_at hl 3 rfl) ?_
    refine lv_aload_n hx hb dX2_take_44 rfl (lv_at hl 2 rfl) ?_
    refine x_alen (v := 14) C hw hm2 (by decide) (by decide) (by decide) dX2_take_45 ?_
    refine lv_icmp_ge (tgt := 86) hx hb dX2_take_46 (by decide) (fun c9 => ?_) (fun c9 => ?_)
    · replace hf := hf.1 c9
      exact hK86 σ _ _ _ hf hw (lv_sub hl [0] rfl)
    · replace hf := hf.2 c9
      refine lv_aload_n hx hb dX2_take_49 rfl (lv_at hl 2 rfl) ?_
      refine lv_iload_n hx hb dX2_take_50 rfl (lv_at hl 3 rfl) ?_
      have hO_10 : ∀ i, (sR σ 21 0 (v3).toNatClampNeg) = some i → (8, i) ∈ L := fun i h => hw.2.2.2.2 21 _ _ i h
      refine x_aald (t := 5) (T := 8) C hw hm2 (by decide) rfl (by decide) rfl hf.1 rfl dX2_take_51 ?_
      replace hf := hf.2
      refine x_astore (lv' := [(4, rf lay 8 (sR σ 21 0 (v3).toNatClampNeg)), (0, .ref (lay 2 0)), (1, .ref (lay 0 a1)), (2, .ref (lay 21 0)), (3, .int v3)]) hx hb dX2_take_52 hl (by decide) rfl (fun ls hl => ?_)
      refine x_aload hx hb dX2_take_54 (lv_at hl 0 rfl) ?_
      refine x_ifnull (r := (sR σ 21 0 (v3).toNatClampNeg)) (tgt := 80) hx hb dX2_take_56 (by decide) (fun eni11 => ?_) (fun i11 eni11 => ?_)
      · replace hf := hf.1 eni11
        exact eX2_take_b80_43 C hret hm0 hm1 hm2 ih hK86 σ v3 _ _ _ hf hw (lv_sub hl [1, 2, 3, 4] rfl)
      · replace hf := hf.2 i11 eni11
        have hn_12 := hO_10 i11 eni11
        rw [eni11] at hl
        try rw [eni11]
        have hl : lv_has ls 5 [(4, .ref (lay 8 i11)), (0, .ref (lay 2 0)), (1, .ref (lay 0 a1)), (2, .ref (lay 21 0)), (3, .int v3)] := hl
        refine lv_aload hx hb dX2_take_59 (lv_at hl 0 rfl) ?_
        have hm_13 : (7, i11) ∈ L := hw.2.2.2.1 8 i11 hn_12 4 (by decide) (by decide) rfl
        refine x_getN (v := .ref (lay 7 i11)) (j := 4) (host := "WhoseHand") C hw hn_12 rfl (by decide) (by decide) rfl q416 dX2_take_61 ?_
        refine lv_aload_n hx hb dX2_take_64 rfl (lv_at hl 1 rfl) ?_
        refine x_get (v := .int (sF σ 2 0 2)) (j := 2) C hw hm0 rfl (by decide) (by decide) rfl q80 dX2_take_65 ?_
        refine lv_aload_n hx hb dX2_take_68 rfl (lv_at hl 2 rfl) ?_
        refine lv_aload hx hb dX2_take_69 (lv_at hl 0 rfl) ?_
        have hm_14 : (4, i11) ∈ L := hw.2.2.2.1 8 i11 hn_12 3 (by decide) (by decide) rfl
        refine x_getN (v := .ref (lay 4 i11)) (j := 3) (host := "WhoseHand") C hw hn_12 rfl (by decide) (by decide) rfl q411 dX2_take_71 ?_
        refine x_runi hw (x_V (n := 1) (rest := [.int (sF σ 2 0 2), .ref (lay 7 i11)]) C hw hm1 (by decide) (eX0_countIn hf hm1 hm_14) q475 q476 q477 q57 q478 rfl rfl (by decide +kernel) ⟨Nat.le_of_ble_eq_true rfl, Nat.le_of_ble_eq_true rfl⟩ rfl hl.1 rfl (Nat.le_of_ble_eq_true rfl) dX2_take_74) (fun r16 σ15 H locs hf hw => ?_)
        try dsimp only at hf
        refine x_runv hw (x_V (n := 2) (rest := []) C hw hm_13 (by decide) (eX7_setCount hf hm_13) q505 q506 q507 q47 q508 rfl rfl (by decide +kernel) ⟨Nat.le_of_ble_eq_true rfl, Nat.le_of_ble_eq_true rfl⟩ rfl hl.1 rfl (Nat.le_of_ble_eq_true rfl) dX2_take_77) (fun σ17 H locs hf hw => ?_)
        try dsimp only at hf
        exact eX2_take_b80_43 C hret hm0 hm1 hm2 ih hK86 σ17 v3 _ _ _ hf hw (lv_sub hl [1, 2, 3, 4] rfl)
set_option maxHeartbeats 4000000 in
set_option maxRecDepth 100000 in
theorem eX2_take_b40 {p : Program} {l : Launch} {e : Env} {s : State} {m : MethodId} {args : Array Value} {below : List Frame} {meth : Method} {c : Code} {E : EC} {lay : Nat → Nat → Nat} {L : List (Nat × Nat)} {A : Nat → Prop} (C : Cx p s m args c meth yX2_take.cls cX2_take 5 E A) (hret : meth.sig.returnType = some .int) {N : Nat} {a1 : Nat} {Q : Int32 → St → Prop} (hm0 : (2, 0) ∈ L) (hm1 : (0, a1) ∈ L) (hm2 : (21, 0) ∈ L) (σ : St) (t0 : Int32) (t1 : Int32) (t2 : Nat) (H : Heap) (locs : List Loc) (ls : Array Slot) (hf : fX2_take_b40 N a1 Q σ t0 t1 t2) (hw : Wo E lay L A s σ H locs) (hl : lv_has ls 5 [(0, .ref (lay 2 0)), (1, .ref (lay 0 a1)), (2, .ref (lay 21 0))]) (ht2 : (31, t2) ∈ L) : W p l e rmX2_take s m args below meth c H locs 0 0 (MQ below (va_Qi Q (Bd E lay L A) A) args s 0 0 A) (F0 m 40 ls [.int t0, .int t1, .ref (lay 31 t2)]) := by
  have hx := C.1
  have hb := C.2.1
  unfold fX2_take_b40 at hf
  refine x_zast C hw ht2 (by decide) rfl hf.1 dX2_take_40 (fun σ8 H locs eσ8 hw => ?_)
  replace hf := hf.2 σ8 eσ8
  refine lv_iconst (v := 0) hx hb dX2_take_41 (by decide) ?_
  refine lv_istore_n (lv' := [(3, .int (0 : Int32)), (0, .ref (lay 2 0)), (1, .ref (lay 0 a1)), (2, .ref (lay 21 0))]) hx hb dX2_take_42 rfl hl (by decide) rfl (fun ls hl => ?_)
  refine eX2_take_l43 C hret hm0 hm1 hm2 ?_ N σ8 (0 : Int32) _ _ _ hf hw (lv_sub hl [1, 2, 3, 0] rfl)
  · intro σ18 H locs ls hf hw hl
    refine lv_aload_n hx hb dX2_take_86 rfl (lv_at hl 0 rfl) ?_
    refine lv_dup hx hb dX2_take_87 rfl ?_
    refine x_get (v := .int (sF σ18 2 0 2)) (j := 2) C hw hm0 rfl (by decide) (by decide) rfl q80 dX2_take_88 ?_
    refine lv_dup_x1 hx hb dX2_take_91 rfl rfl ?_
    refine lv_iconst (v := 1) hx hb dX2_take_92 (by decide) ?_
    refine lv_iadd hx hb dX2_take_93 ?_
    refine x_putI (j := 2) (ty := .int) C hw hm0 rfl (by decide) (by decide) rfl rfl (by decide +kernel) rfl rfl q80 dX2_take_94 (fun σ19 H locs eσ19 hw => ?_)
    replace hf := hf σ19 eσ19
    exact x_iret C hret hw hf dX2_take_97
def fX2_take (N : Nat) (σ : St) (a1 : Nat) (Q : Int32 → St → Prop) : Prop := fX2_isFull N σ (fun (r2 : Int32) (σ1 : St) => ((r2 = 0 → (vp_in (sF σ1 2 0 2) 12 ∧ ∀ σ5 : St, σ5 = setR σ1 30 0 ((sF σ1 2 0 2)).toNatClampNeg (some a1) → ((¬ (sF σ5 0 a1 0) = 0 → fX2_take_b40 N a1 Q σ5 (0 : Int32) (sF σ5 2 0 2) 0) ∧ ((sF σ5 0 a1 0) = 0 → fX2_take_b40 N a1 Q σ5 (1 : Int32) (sF σ5 2 0 2) 0)))) ∧ (¬ r2 = 0 → Q (-2 : Int32) σ1)))
set_option maxHeartbeats 4000000 in
set_option maxRecDepth 100000 in
theorem eX2_take {l : Launch} {E : EC} {lay : Nat → Nat → Nat} {L : List (Nat × Nat)} {A : Nat → Prop} {N : Nat} {σ : St} {a1 : Nat} {Q : Int32 → St → Prop} (hf : fX2_take N σ a1 Q) (hm0 : (2, 0) ∈ L) (hm1 : (0, a1) ∈ L) (hm2 : (21, 0) ∈ L) : Met l yX2_take (.code yX2_take cX2_take 5 (some .int) :: big) rmX2_take (va_Pc [.ref (lay 2 0), .ref (lay 0 a1), .ref (lay 21 0)] (Bp E lay L A σ)) (va_Qi Q (Bd E lay L A) A) 0 0 A := by
  refine x_met (by decide +kernel) (Nat.le_of_ble_eq_true rfl) ?_
  intro p e s m args below meth c ls C hret hw hl
  have hx := C.1
  have hb := C.2.1
  have hl : lv_has ls 5 [(0, .ref (lay 2 0)), (1, .ref (lay 0 a1)), (2, .ref (lay 21 0))] := hl
  unfold fX2_take at hf
  refine lv_aload_n hx hb dX2_take_0 rfl (lv_at hl 0 rfl) ?_
  refine x_runi hw (x_V (n := 0) (rest := []) C hw hm0 (by decide) (eX2_isFull hf hm0) q574 q543 q544 q45 q545 rfl rfl (by decide +kernel) ⟨Nat.le_of_ble_eq_true rfl, Nat.le_of_ble_eq_true rfl⟩ rfl hl.1 rfl (Nat.le_of_ble_eq_true rfl) dX2_take_1) (fun r2 σ1 H locs hf hw => ?_)
  have hzr2 := hf.2
  replace hf := hf.1
  try dsimp only at hf
  refine lv_if_eq (tgt := 10) hx hb dX2_take_4 (by decide) (fun c3 => ?_) (fun c3 => ?_)
  · replace hf := hf.1 c3
    refine lv_aload_n hx hb dX2_take_10 rfl (lv_at hl 0 rfl) ?_
    have hm_4 : (30, 0) ∈ L := hw.2.2.2.1 2 0 hm0 0 (by decide) (by decide) rfl
    refine x_get (v := .ref (lay 30 0)) (j := 0) C hw hm0 rfl (by decide) (by decide) rfl q78 dX2_take_11 ?_
    refine lv_aload_n hx hb dX2_take_14 rfl (lv_at hl 0 rfl) ?_
    refine x_get (v := .int (sF σ1 2 0 2)) (j := 2) C hw hm0 rfl (by decide) (by decide) rfl q80 dX2_take_15 ?_
    refine lv_aload_n hx hb dX2_take_18 rfl (lv_at hl 1 rfl) ?_
    refine x_aast (K := 30) (t := 6) (i2 := a1) C hw hm_4 hm1 (by decide) (by decide) rfl (by decide) rfl hf.1 dX2_take_19 (fun σ5 H locs eσ5 hw => ?_)
    replace hf := hf.2 σ5 eσ5
    refine lv_aload_n hx hb dX2_take_20 rfl (lv_at hl 0 rfl) ?_
    have hm_6 : (31, 0) ∈ L := hw.2.2.2.1 2 0 hm0 1 (by decide) (by decide) rfl
    refine x_get (v := .ref (lay 31 0)) (j := 1) C hw hm0 rfl (by decide) (by decide) rfl q79 dX2_take_21 ?_
    refine lv_aload_n hx hb dX2_take_24 rfl (lv_at hl 0 rfl) ?_
    refine x_get (v := .int (sF σ5 2 0 2)) (j := 2) C hw hm0 rfl (by decide) (by decide) rfl q80 dX2_take_25 ?_
    refine lv_aload_n hx hb dX2_take_28 rfl (lv_at hl 1 rfl) ?_
    refine x_getN (v := .int (sF σ5 0 a1 0)) (j := 0) (host := "WhoseHand") C hw hm1 rfl (by decide) (by decide) rfl q553 dX2_take_29 ?_
    refine lv_if_ne (tgt := 39) hx hb dX2_take_32 (by decide) (fun c7 => ?_) (fun c7 => ?_)
    · replace hf := hf.1 c7
      refine lv_iconst (v := 0) hx hb dX2_take_39 (by decide) ?_
      exact eX2_take_b40 C hret hm0 hm1 hm2 σ5 (0 : Int32) (sF σ5 2 0 2) 0 _ _ _ hf hw (lv_sub hl [0, 1, 2] rfl) hm_6
    · replace hf := hf.2 c7
      refine lv_iconst (v := 1) hx hb dX2_take_35 (by decide) ?_
      refine lv_goto (tgt := 40) hx hb dX2_take_36 (by decide) ?_
      exact eX2_take_b40 C hret hm0 hm1 hm2 σ5 (1 : Int32) (sF σ5 2 0 2) 0 _ _ _ hf hw (lv_sub hl [0, 1, 2] rfl) hm_6
  · replace hf := hf.2 c3
    refine lv_bipush (v := (-2)) hx hb dX2_take_7 (by decide) ?_
    exact x_iret C hret hw hf dX2_take_9
-- X2_tallyText
abbrev rmX2_tallyText : Room := { frames := 5, cells := 0, slots := 0, locals := 115 }
def fX2_tallyText_b64_30 (N : Nat) (a1 : Nat) (Q : St → Prop) (Kh : St → Int32 → Prop) (Kx70 : St → Prop) (σ : St) (v2 : Int32) : Prop := Kh σ (v2 + (1 : Int32))
def fX2_tallyText_l30 (N : Nat) (a1 : Nat) (Q : St → Prop) (Kx70 : St → Prop) : Nat → St → Int32 → Prop
  | 0, _, _ => False
  | n + 1, σ, v2 => (((sF σ 2 0 2) ≤ v2 → Kx70 σ) ∧ (¬ (sF σ 2 0 2) ≤ v2 → fX2_featureAt N σ v2 (fun (r9 : Option Nat) (σ8 : St) => ((r9 = none → fX2_tallyText_b64_30 N a1 Q (fun (σ : St) (w2 : Int32) => fX2_tallyText_l30 N a1 Q Kx70 n σ w2) Kx70 σ8 v2) ∧ (∀ i10, r9 = some i10 → fX0_countIn N σ8 i10 a1 (fun (r15 : Int32) (σ14 : St) => fX7_setCount N σ14 a1 v2 r15 (fun (σ16 : St) => fX2_tallyText_b64_30 N a1 Q (fun (σ : St) (w2 : Int32) => fX2_tallyText_l30 N a1 Q Kx70 n σ w2) Kx70 σ16 v2)))))))
set_option maxHeartbeats 4000000 in
set_option maxRecDepth 100000 in
theorem eX2_tallyText_b64_30 {p : Program} {l : Launch} {e : Env} {s : State} {m : MethodId} {args : Array Value} {below : List Frame} {meth : Method} {c : Code} {E : EC} {lay : Nat → Nat → Nat} {L : List (Nat × Nat)} {A : Nat → Prop} (C : Cx p s m args c meth yX2_tallyText.cls cX2_tallyText 4 E A) (hret : meth.sig.returnType = none) {N : Nat} {a1 : Nat} {Q : St → Prop} {Kh : St → Int32 → Prop} {Kx70 : St → Prop} (hm0 : (2, 0) ∈ L) (hm1 : (8, a1) ∈ L) (hKh : ∀ (σ : St) (w2 : Int32) (H : Heap) (locs : List Loc) (ls : Array Slot), Kh σ w2 → Wo E lay L A s σ H locs → lv_has ls 4 [(0, .ref (lay 2 0)), (1, .ref (lay 8 a1)), (2, .int w2)] → W p l e rmX2_tallyText s m args below meth c H locs 0 0 (MQ below (va_Qv Q (Bd E lay L A) A) args s 0 0 A) (F0 m 30 ls [])) (hK70 : ∀ (σ : St) (H : Heap) (locs : List Loc) (ls : Array Slot), Kx70 σ → Wo E lay L A s σ H locs → lv_has ls 4 [] → W p l e rmX2_tallyText s m args below meth c H locs 0 0 (MQ below (va_Qv Q (Bd E lay L A) A) args s 0 0 A) (F0 m 70 ls [])) (σ : St) (v2 : Int32) (H : Heap) (locs : List Loc) (ls : Array Slot) (hf : fX2_tallyText_b64_30 N a1 Q Kh Kx70 σ v2) (hw : Wo E lay L A s σ H locs) (hl : lv_has ls 4 [(0, .ref (lay 2 0)), (1, .ref (lay 8 a1)), (2, .int v2)]) : W p l e rmX2_tallyText s m args below meth c H locs 0 0 (MQ below (va_Qv Q (Bd E lay L A) A) args s 0 0 A) (F0 m 64 ls []) := by
  have hx := C.1
  have hb := C.2.1
  unfold fX2_tallyText_b64_30 at hf
  refine lv_iinc (v := (v2 + (1 : Int32))) (lv' := [(2, .int (v2 + (1 : Int32))), (0, .ref (lay 2 0)), (1, .ref (lay 8 a1))]) hx hb dX2_tallyText_64 hl (k := 2) rfl (by rfl) (by decide) rfl (fun ls hl => ?_)
  refine lv_goto (tgt := 30) hx hb dX2_tallyText_67 (by decide) ?_
  exact hKh σ (v2 + (1 : Int32)) _ _ _ hf hw (lv_sub hl [1, 2, 0] rfl)
set_option maxHeartbeats 4000000 in
set_option maxRecDepth 100000 in
theorem eX2_tallyText_l30 {p : Program} {l : Launch} {e : Env} {s : State} {m : MethodId} {args : Array Value} {below : List Frame} {meth : Method} {c : Code} {E : EC} {lay : Nat → Nat → Nat} {L : List (Nat × Nat)} {A : Nat → Prop} (C : Cx p s m args c meth yX2_tallyText.cls cX2_tallyText 4 E A) (hret : meth.sig.returnType = none) {N : Nat} {a1 : Nat} {Q : St → Prop} {Kx70 : St → Prop} (hm0 : (2, 0) ∈ L) (hm1 : (8, a1) ∈ L) (hK70 : ∀ (σ : St) (H : Heap) (locs : List Loc) (ls : Array Slot), Kx70 σ → Wo E lay L A s σ H locs → lv_has ls 4 [] → W p l e rmX2_tallyText s m args below meth c H locs 0 0 (MQ below (va_Qv Q (Bd E lay L A) A) args s 0 0 A) (F0 m 70 ls [])) : ∀ (n : Nat) (σ : St) (v2 : Int32) (H : Heap) (locs : List Loc) (ls : Array Slot), fX2_tallyText_l30 N a1 Q Kx70 n σ v2 → Wo E lay L A s σ H locs → lv_has ls 4 [(0, .ref (lay 2 0)), (1, .ref (lay 8 a1)), (2, .int v2)] → W p l e rmX2_tallyText s m args below meth c H locs 0 0 (MQ below (va_Qv Q (Bd E lay L A) A) args s 0 0 A) (F0 m 30 ls []) := by
  have hx := C.1
  have hb := C.2.1
  intro n
  induction n with
  | zero => intro σ v2 H locs ls hf; exact hf.elim
  | succ n ih =>
    intro σ v2 H locs ls hf hw hl
    rw [fX2_tallyText_l30] at hf
    refine lv_iload_n hx hb dX2_tallyText_30 rfl (lv_at hl 2 rfl) ?_
    refine lv_aload_n hx hb dX2_tallyText_31 rfl (lv_at hl 0 rfl) ?_
    refine x_get (v := .int (sF σ 2 0 2)) (j := 2) C hw hm0 rfl (by decide) (by decide) rfl q80 dX2_tallyText_32 ?_
    refine lv_icmp_ge (tgt := 70) hx hb dX2_tallyText_35 (by decide) (fun c7 => ?_) (fun c7 => ?_)
    · replace hf := hf.1 c7
      exact hK70 σ _ _ _ hf hw (lv_sub hl [] rfl)
    · replace hf := hf.2 c7
      refine lv_aload_n hx hb dX2_tallyText_38 rfl (lv_at hl 0 rfl) ?_
      refine lv_iload_n hx hb dX2_tallyText_39 rfl (lv_at hl 2 rfl) ?_
      refine x_runq hw (x_V (n := 1) (rest := []) C hw hm0 (by decide) (eX2_featureAt hf hm0) q471 q473 q6 q45 q474 rfl rfl (by decide +kernel) ⟨Nat.le_of_ble_eq_true rfl, Nat.le_of_ble_eq_true rfl⟩ rfl hl.1 rfl (Nat.le_of_ble_eq_true rfl) dX2_tallyText_40) (fun r9 σ8 H locs hf hOr9 hw => ?_)
      try dsimp only at hf
      refine x_astore_n (lv' := [(3, rf lay 0 r9), (0, .ref (lay 2 0)), (1, .ref (lay 8 a1)), (2, .int v2)]) hx hb dX2_tallyText_43 rfl hl (by decide) rfl (fun ls hl => ?_)
      refine x_aload_n hx hb dX2_tallyText_44 rfl (lv_at hl 0 rfl) ?_
      refine x_ifnull (r := r9) (tgt := 64) hx hb dX2_tallyText_45 (by decide) (fun eni10 => ?_) (fun i10 eni10 => ?_)
      · replace hf := hf.1 eni10
        exact eX2_tallyText_b64_30 C hret hm0 hm1 ih hK70 σ8 v2 _ _ _ hf hw (lv_sub hl [1, 2, 3] rfl)
      · replace hf := hf.2 i10 eni10
        have hn_11 := hOr9 i10 eni10
        rw [eni10] at hl
        try rw [eni10]
        have hl : lv_has ls 4 [(3, .ref (lay 0 i10)), (0, .ref (lay 2 0)), (1, .ref (lay 8 a1)), (2, .int v2)] := hl
        refine lv_aload_n hx hb dX2_tallyText_48 rfl (lv_at hl 2 rfl) ?_
        have hm_12 : (7, a1) ∈ L := hw.2.2.2.1 8 a1 hm1 4 (by decide) (by decide) rfl
        refine x_getN (v := .ref (lay 7 a1)) (j := 4) (host := "WhoseHand") C hw hm1 rfl (by decide) (by decide) rfl q416 dX2_tallyText_49 ?_
        refine lv_iload_n hx hb dX2_tallyText_52 rfl (lv_at hl 3 rfl) ?_
        refine lv_aload_n hx hb dX2_tallyText_53 rfl (lv_at hl 0 rfl) ?_
        refine lv_aload_n hx hb dX2_tallyText_54 rfl (lv_at hl 2 rfl) ?_
        have hm_13 : (4, a1) ∈ L := hw.2.2.2.1 8 a1 hm1 3 (by decide) (by decide) rfl
        refine x_getN (v := .ref (lay 4 a1)) (j := 3) (host := "WhoseHand") C hw hm1 rfl (by decide) (by decide) rfl q411 dX2_tallyText_55 ?_
        refine x_runi hw (x_V (n := 1) (rest := [.int v2, .ref (lay 7 a1)]) C hw hn_11 (by decide) (eX0_countIn hf hn_11 hm_13) q475 q476 q477 q57 q478 rfl rfl (by decide +kernel) ⟨Nat.le_of_ble_eq_true rfl, Nat.le_of_ble_eq_true rfl⟩ rfl hl.1 rfl (Nat.le_of_ble_eq_true rfl) dX2_tallyText_58) (fun r15 σ14 H locs hf hw => ?_)
        try dsimp only at hf
        refine x_runv hw (x_V (n := 2) (rest := []) C hw hm_12 (by decide) (eX7_setCount hf hm_12) q505 q506 q507 q47 q508 rfl rfl (by decide +kernel) ⟨Nat.le_of_ble_eq_true rfl, Nat.le_of_ble_eq_true rfl⟩ rfl hl.1 rfl (Nat.le_of_ble_eq_true rfl) dX2_tallyText_61) (fun σ16 H locs hf hw => ?_)
        try dsimp only at hf
        exact eX2_tallyText_b64_30 C hret hm0 hm1 ih hK70 σ16 v2 _ _ _ hf hw (lv_sub hl [1, 2, 3] rfl)
def fX2_tallyText (N : Nat) (σ : St) (a1 : Nat) (Q : St → Prop) : Prop := ∀ σ3 : St, σ3 = setF σ 7 a1 1 (sF σ 4 a1 4) → ∀ σ6 : St, σ6 = setF σ3 7 a1 2 (sF σ3 4 a1 6) → fX2_tallyText_l30 N a1 Q (fun (σ17 : St) => Q σ17) N σ6 (0 : Int32)
set_option maxHeartbeats 4000000 in
set_option maxRecDepth 100000 in
theorem eX2_tallyText {l : Launch} {E : EC} {lay : Nat → Nat → Nat} {L : List (Nat × Nat)} {A : Nat → Prop} {N : Nat} {σ : St} {a1 : Nat} {Q : St → Prop} (hf : fX2_tallyText N σ a1 Q) (hm0 : (2, 0) ∈ L) (hm1 : (8, a1) ∈ L) : Met l yX2_tallyText (.code yX2_tallyText cX2_tallyText 4 (none) :: big) rmX2_tallyText (va_Pc [.ref (lay 2 0), .ref (lay 8 a1)] (Bp E lay L A σ)) (va_Qv Q (Bd E lay L A) A) 0 0 A := by
  refine x_met (by decide +kernel) (Nat.le_of_ble_eq_true rfl) ?_
  intro p e s m args below meth c ls C hret hw hl
  have hx := C.1
  have hb := C.2.1
  have hl : lv_has ls 4 [(0, .ref (lay 2 0)), (1, .ref (lay 8 a1))] := hl
  unfold fX2_tallyText at hf
  refine lv_aload_n hx hb dX2_tallyText_0 rfl (lv_at hl 1 rfl) ?_
  have hm_1 : (7, a1) ∈ L := hw.2.2.2.1 8 a1 hm1 4 (by decide) (by decide) rfl
  refine x_getN (v := .ref (lay 7 a1)) (j := 4) (host := "WhoseHand") C hw hm1 rfl (by decide) (by decide) rfl q416 dX2_tallyText_1 ?_
  refine lv_aload_n hx hb dX2_tallyText_4 rfl (lv_at hl 1 rfl) ?_
  have hm_2 : (4, a1) ∈ L := hw.2.2.2.1 8 a1 hm1 3 (by decide) (by decide) rfl
  refine x_getN (v := .ref (lay 4 a1)) (j := 3) (host := "WhoseHand") C hw hm1 rfl (by decide) (by decide) rfl q411 dX2_tallyText_5 ?_
  refine x_getN (v := .int (sF σ 4 a1 4)) (j := 4) (host := "WhoseHand") C hw hm_2 rfl (by decide) (by decide) rfl q249 dX2_tallyText_8 ?_
  refine x_putIN (j := 1) (ty := .int) (host := "WhoseHand") C hw hm_1 rfl (by decide) (by decide) rfl rfl (by decide +kernel) rfl rfl q110 dX2_tallyText_11 (fun σ3 H locs eσ3 hw => ?_)
  replace hf := hf σ3 eσ3
  refine lv_aload_n hx hb dX2_tallyText_14 rfl (lv_at hl 1 rfl) ?_
  have hm_4 : (7, a1) ∈ L := hw.2.2.2.1 8 a1 hm1 4 (by decide) (by decide) rfl
  refine x_getN (v := .ref (lay 7 a1)) (j := 4) (host := "WhoseHand") C hw hm1 rfl (by decide) (by decide) rfl q416 dX2_tallyText_15 ?_
  refine lv_aload_n hx hb dX2_tallyText_18 rfl (lv_at hl 1 rfl) ?_
  have hm_5 : (4, a1) ∈ L := hw.2.2.2.1 8 a1 hm1 3 (by decide) (by decide) rfl
  refine x_getN (v := .ref (lay 4 a1)) (j := 3) (host := "WhoseHand") C hw hm1 rfl (by decide) (by decide) rfl q411 dX2_tallyText_19 ?_
  refine x_getN (v := .int (sF σ3 4 a1 6)) (j := 6) (host := "WhoseHand") C hw hm_5 rfl (by decide) (by decide) rfl q255 dX2_tallyText_22 ?_
  refine x_putIN (j := 2) (ty := .int) (host := "WhoseHand") C hw hm_4 rfl (by decide) (by decide) rfl rfl (by decide +kernel) rfl rfl q112 dX2_tallyText_25 (fun σ6 H locs eσ6 hw => ?_)
  replace hf := hf σ6 eσ6
  refine lv_iconst (v := 0) hx hb dX2_tallyText_28 (by decide) ?_
  refine lv_istore_n (lv' := [(2, .int (0 : Int32)), (0, .ref (lay 2 0)), (1, .ref (lay 8 a1))]) hx hb dX2_tallyText_29 rfl hl (by decide) rfl (fun ls hl => ?_)
  refine eX2_tallyText_l30 C hret hm0 hm1 ?_ N σ6 (0 : Int32) _ _ _ hf hw (lv_sub hl [1, 2, 0] rfl)
  · intro σ17 H locs ls hf hw hl
    exact x_vret C hret hw hf dX2_tallyText_70
-- X2_tallyWords
abbrev rmX2_tallyWords : Room := { frames := 4, cells := 0, slots := 0, locals := 94 }
def fX2_tallyWords_b53_16 (N : Nat) (a1 : Nat) (a2 : Int32) (a3 : Int32) (a4 : Nat) (Q : St → Prop) (Kh : St → Int32 → Prop) (Kx59 : St → Prop) (σ : St) (v5 : Int32) : Prop := Kh σ (v5 + (1 : Int32))
def fX2_tallyWords_l16 (N : Nat) (a1 : Nat) (a2 : Int32) (a3 : Int32) (a4 : Nat) (Q : St → Prop) (Kx59 : St → Prop) : Nat → St → Int32 → Prop
  | 0, _, _ => False
  | n + 1, σ, v5 => (((sF σ 2 0 2) ≤ v5 → Kx59 σ) ∧ (¬ (sF σ 2 0 2) ≤ v5 → fX2_featureAt N σ v5 (fun (r5 : Option Nat) (σ4 : St) => ((r5 = none → fX2_tallyWords_b53_16 N a1 a2 a3 a4 Q (fun (σ : St) (w5 : Int32) => fX2_tallyWords_l16 N a1 a2 a3 a4 Q Kx59 n σ w5) Kx59 σ4 v5) ∧ (∀ i6, r5 = some i6 → fX0_countInWords N σ4 i6 a1 a2 a3 (fun (r9 : Int32) (σ8 : St) => fX7_setCount N σ8 a4 v5 r9 (fun (σ10 : St) => fX2_tallyWords_b53_16 N a1 a2 a3 a4 Q (fun (σ : St) (w5 : Int32) => fX2_tallyWords_l16 N a1 a2 a3 a4 Q Kx59 n σ w5) Kx59 σ10 v5)))))))
set_option maxHeartbeats 4000000 in
set_option maxRecDepth 100000 in
theorem eX2_tallyWords_b53_16 {p : Program} {l : Launch} {e : Env} {s : State} {m : MethodId} {args : Array Value} {below : List Frame} {meth : Method} {c : Code} {E : EC} {lay : Nat → Nat → Nat} {L : List (Nat × Nat)} {A : Nat → Prop} (C : Cx p s m args c meth yX2_tallyWords.cls cX2_tallyWords 7 E A) (hret : meth.sig.returnType = none) {N : Nat} {a1 : Nat} {a2 : Int32} {a3 : Int32} {a4 : Nat} {Q : St → Prop} {Kh : St → Int32 → Prop} {Kx59 : St → Prop} (hm0 : (2, 0) ∈ L) (hm1 : (4, a1) ∈ L) (hm4 : (7, a4) ∈ L) (hKh : ∀ (σ : St) (w5 : Int32) (H : Heap) (locs : List Loc) (ls : Array Slot), Kh σ w5 → Wo E lay L A s σ H locs → lv_has ls 7 [(0, .ref (lay 2 0)), (1, .ref (lay 4 a1)), (2, .int a2), (3, .int a3), (4, .ref (lay 7 a4)), (5, .int w5)] → W p l e rmX2_tallyWords s m args below meth c H locs 0 0 (MQ below (va_Qv Q (Bd E lay L A) A) args s 0 0 A) (F0 m 16 ls [])) (hK59 : ∀ (σ : St) (H : Heap) (locs : List Loc) (ls : Array Slot), Kx59 σ → Wo E lay L A s σ H locs → lv_has ls 7 [] → W p l e rmX2_tallyWords s m args below meth c H locs 0 0 (MQ below (va_Qv Q (Bd E lay L A) A) args s 0 0 A) (F0 m 59 ls [])) (σ : St) (v5 : Int32) (H : Heap) (locs : List Loc) (ls : Array Slot) (hf : fX2_tallyWords_b53_16 N a1 a2 a3 a4 Q Kh Kx59 σ v5) (hw : Wo E lay L A s σ H locs) (hl : lv_has ls 7 [(0, .ref (lay 2 0)), (1, .ref (lay 4 a1)), (2, .int a2), (3, .int a3), (4, .ref (lay 7 a4)), (5, .int v5)]) : W p l e rmX2_tallyWords s m args below meth c H locs 0 0 (MQ below (va_Qv Q (Bd E lay L A) A) args s 0 0 A) (F0 m 53 ls []) := by
  have hx := C.1
  have hb := C.2.1
  unfold fX2_tallyWords_b53_16 at hf
  refine lv_iinc (v := (v5 + (1 : Int32))) (lv' := [(5, .int (v5 + (1 : Int32))), (0, .ref (lay 2 0)), (1, .ref (lay 4 a1)), (2, .int a2), (3, .int a3), (4, .ref (lay 7 a4))]) hx hb dX2_tallyWords_53 hl (k := 5) rfl (by rfl) (by decide) rfl (fun ls hl => ?_)
  refine lv_goto (tgt := 16) hx hb dX2_tallyWords_56 (by decide) ?_
  exact hKh σ (v5 + (1 : Int32)) _ _ _ hf hw (lv_sub hl [1, 2, 3, 4, 5, 0] rfl)
set_option maxHeartbeats 4000000 in
set_option maxRecDepth 100000 in
theorem eX2_tallyWords_l16 {p : Program} {l : Launch} {e : Env} {s : State} {m : MethodId} {args : Array Value} {below : List Frame} {meth : Method} {c : Code} {E : EC} {lay : Nat → Nat → Nat} {L : List (Nat × Nat)} {A : Nat → Prop} (C : Cx p s m args c meth yX2_tallyWords.cls cX2_tallyWords 7 E A) (hret : meth.sig.returnType = none) {N : Nat} {a1 : Nat} {a2 : Int32} {a3 : Int32} {a4 : Nat} {Q : St → Prop} {Kx59 : St → Prop} (hm0 : (2, 0) ∈ L) (hm1 : (4, a1) ∈ L) (hm4 : (7, a4) ∈ L) (hK59 : ∀ (σ : St) (H : Heap) (locs : List Loc) (ls : Array Slot), Kx59 σ → Wo E lay L A s σ H locs → lv_has ls 7 [] → W p l e rmX2_tallyWords s m args below meth c H locs 0 0 (MQ below (va_Qv Q (Bd E lay L A) A) args s 0 0 A) (F0 m 59 ls [])) : ∀ (n : Nat) (σ : St) (v5 : Int32) (H : Heap) (locs : List Loc) (ls : Array Slot), fX2_tallyWords_l16 N a1 a2 a3 a4 Q Kx59 n σ v5 → Wo E lay L A s σ H locs → lv_has ls 7 [(0, .ref (lay 2 0)), (1, .ref (lay 4 a1)), (2, .int a2), (3, .int a3), (4, .ref (lay 7 a4)), (5, .int v5)] → W p l e rmX2_tallyWords s m args below meth c H locs 0 0 (MQ below (va_Qv Q (Bd E lay L A) A) args s 0 0 A) (F0 m 16 ls []) := by
  have hx := C.1
  have hb := C.2.1
  intro n
  induction n with
  | zero => intro σ v5 H locs ls hf; exact hf.elim
  | succ n ih =>
    intro σ v5 H locs ls hf hw hl
    rw [fX2_tallyWords_l16] at hf
    refine lv_iload hx hb dX2_tallyWords_16 (lv_at hl 5 rfl) ?_
    refine lv_aload_n hx hb dX2_tallyWords_18 rfl (lv_at hl 0 rfl) ?_
    refine x_get (v := .int (sF σ 2 0 2)) (j := 2) C hw hm0 rfl (by decide) (by decide) rfl q80 dX2_tallyWords_19 ?_
    refine lv_icmp_ge (tgt := 59) hx hb dX2_tallyWords_22 (by decide) (fun c3 => ?_) (fun c3 => ?_)
    · replace hf := hf.1 c3
      exact hK59 σ _ _ _ hf hw (lv_sub hl [] rfl)
    · replace hf := hf.2 c3
      refine lv_aload_n hx hb dX2_tallyWords_25 rfl (lv_at hl 0 rfl) ?_
      refine lv_iload hx hb dX2_tallyWords_26 (lv_at hl 5 rfl) ?_
      refine x_runq hw (x_V (n := 1) (rest := []) C hw hm0 (by decide) (eX2_featureAt hf hm0) q471 q473 q6 q45 q474 rfl rfl (by decide +kernel) ⟨Nat.le_of_ble_eq_true rfl, Nat.le_of_ble_eq_true rfl⟩ rfl hl.1 rfl (Nat.le_of_ble_eq_true rfl) dX2_tallyWords_28) (fun r5 σ4 H locs hf hOr5 hw => ?_)
      try dsimp only at hf
      refine x_astore (lv' := [(6, rf lay 0 r5), (0, .ref (lay 2 0)), (1, .ref (lay 4 a1)), (2, .int a2), (3, .int a3), (4, .ref (lay 7 a4)), (5, .int v5)]) hx hb dX2_tallyWords_31 hl (by decide) rfl (fun ls hl => ?_)
      refine x_aload hx hb dX2_tallyWords_33 (lv_at hl 0 rfl) ?_
      refine x_ifnull (r := r5) (tgt := 53) hx hb dX2_tallyWords_35 (by decide) (fun eni6 => ?_) (fun i6 eni6 => ?_)
      · replace hf := hf.1 eni6
        exact eX2_tallyWords_b53_16 C hret hm0 hm1 hm4 ih hK59 σ4 v5 _ _ _ hf hw (lv_sub hl [1, 2, 3, 4, 5, 6] rfl)
      · replace hf := hf.2 i6 eni6
        have hn_7 := hOr5 i6 eni6
        rw [eni6] at hl
        try rw [eni6]
        have hl : lv_has ls 7 [(6, .ref (lay 0 i6)), (0, .ref (lay 2 0)), (1, .ref (lay 4 a1)), (2, .int a2), (3, .int a3), (4, .ref (lay 7 a4)), (5, .int v5)] := hl
        refine lv_aload hx hb dX2_tallyWords_38 (lv_at hl 5 rfl) ?_
        refine lv_iload hx hb dX2_tallyWords_40 (lv_at hl 6 rfl) ?_
        refine lv_aload hx hb dX2_tallyWords_42 (lv_at hl 0 rfl) ?_
        refine lv_aload_n hx hb dX2_tallyWords_44 rfl (lv_at hl 2 rfl) ?_
        refine lv_iload_n hx hb dX2_tallyWords_45 rfl (lv_at hl 3 rfl) ?_
        refine lv_iload_n hx hb dX2_tallyWords_46 rfl (lv_at hl 4 rfl) ?_
        refine x_runi hw (x_V (n := 3) (rest := [.int v5, .ref (lay 7 a4)]) C hw hn_7 (by decide) (eX0_countInWords hf hn_7 hm1) q738 q484 q485 q57 q486 rfl rfl (by decide +kernel) ⟨Nat.le_of_ble_eq_true rfl, Nat.le_of_ble_eq_true rfl⟩ rfl hl.1 rfl (Nat.le_of_ble_eq_true rfl) dX2_tallyWords_47) (fun r9 σ8 H locs hf hw => ?_)
        try dsimp only at hf
        refine x_runv hw (x_V (n := 2) (rest := []) C hw hm4 (by decide) (eX7_setCount hf hm4) q505 q506 q507 q47 q508 rfl rfl (by decide +kernel) ⟨Nat.le_of_ble_eq_true rfl, Nat.le_of_ble_eq_true rfl⟩ rfl hl.1 rfl (Nat.le_of_ble_eq_true rfl) dX2_tallyWords_50) (fun σ10 H locs hf hw => ?_)
        try dsimp only at hf
        exact eX2_tallyWords_b53_16 C hret hm0 hm1 hm4 ih hK59 σ10 v5 _ _ _ hf hw (lv_sub hl [1, 2, 3, 4, 5, 6] rfl)
def fX2_tallyWords (N : Nat) (σ : St) (a1 : Nat) (a2 : Int32) (a3 : Int32) (a4 : Nat) (Q : St → Prop) : Prop := fX7_clear N σ a4 (fun (σ1 : St) => ∀ σ2 : St, σ2 = setF σ1 7 a4 1 (a3 - a2) → fX2_tallyWords_l16 N a1 a2 a3 a4 Q (fun (σ11 : St) => Q σ11) N σ2 (0 : Int32))
set_option maxHeartbeats 4000000 in
set_option maxRecDepth 100000 in
theorem eX2_tallyWords {l : Launch} {E : EC} {lay : Nat → Nat → Nat} {L : List (Nat × Nat)} {A : Nat → Prop} {N : Nat} {σ : St} {a1 : Nat} {a2 : Int32} {a3 : Int32} {a4 : Nat} {Q : St → Prop} (hf : fX2_tallyWords N σ a1 a2 a3 a4 Q) (hm0 : (2, 0) ∈ L) (hm1 : (4, a1) ∈ L) (hm4 : (7, a4) ∈ L) : Met l yX2_tallyWords (.code yX2_tallyWords cX2_tallyWords 7 (none) :: big) rmX2_tallyWords (va_Pc [.ref (lay 2 0), .ref (lay 4 a1), .int a2, .int a3, .ref (lay 7 a4)] (Bp E lay L A σ)) (va_Qv Q (Bd E lay L A) A) 0 0 A := by
  refine x_met (by decide +kernel) (Nat.le_of_ble_eq_true rfl) ?_
  intro p e s m args below meth c ls C hret hw hl
  have hx := C.1
  have hb := C.2.1
  have hl : lv_has ls 7 [(0, .ref (lay 2 0)), (1, .ref (lay 4 a1)), (2, .int a2), (3, .int a3), (4, .ref (lay 7 a4))] := hl
  unfold fX2_tallyWords at hf
  refine lv_aload hx hb dX2_tallyWords_0 (lv_at hl 4 rfl) ?_
  refine x_runv hw (x_V (n := 0) (rest := []) C hw hm4 (by decide) (eX7_clear hf hm4) q737 q612 q613 q47 q614 rfl rfl (by decide +kernel) ⟨Nat.le_of_ble_eq_true rfl, Nat.le_of_ble_eq_true rfl⟩ rfl hl.1 rfl (Nat.le_of_ble_eq_true rfl) dX2_tallyWords_2) (fun σ1 H locs hf hw => ?_)
  try dsimp only at hf
  refine lv_aload hx hb dX2_tallyWords_5 (lv_at hl 4 rfl) ?_
  refine lv_iload_n hx hb dX2_tallyWords_7 rfl (lv_at hl 3 rfl) ?_
  refine lv_iload_n hx hb dX2_tallyWords_8 rfl (lv_at hl 2 rfl) ?_
  refine lv_isub hx hb dX2_tallyWords_9 ?_
  refine x_putIN (j := 1) (ty := .int) (host := "WhoseHand") C hw hm4 rfl (by decide) (by decide) rfl rfl (by decide +kernel) rfl rfl q110 dX2_tallyWords_10 (fun σ2 H locs eσ2 hw => ?_)
  replace hf := hf σ2 eσ2
  refine lv_iconst (v := 0) hx hb dX2_tallyWords_13 (by decide) ?_
  refine lv_istore (lv' := [(5, .int (0 : Int32)), (0, .ref (lay 2 0)), (1, .ref (lay 4 a1)), (2, .int a2), (3, .int a3), (4, .ref (lay 7 a4))]) hx hb dX2_tallyWords_14 hl (by decide) rfl (fun ls hl => ?_)
  refine eX2_tallyWords_l16 C hret hm0 hm1 hm4 ?_ N σ2 (0 : Int32) _ _ _ hf hw (lv_sub hl [1, 2, 3, 4, 5, 0] rfl)
  · intro σ11 H locs ls hf hw hl
    exact x_vret C hret hw hf dX2_tallyWords_59
-- X2_featuresOf
abbrev rmX2_featuresOf : Room := { frames := 0, cells := 0, slots := 0, locals := 0 }
def fX2_featuresOf (N : Nat) (σ : St) (a1 : Int64) (Q : Int32 → St → Prop) : Prop := ∀ x1 : Int32, x1 = (((a1).toInt32) &&& (((1 : Int32) <<< ((sF σ 2 0 2) &&& 31)) - (1 : Int32))) → ((¬ x1 = 0 → Q x1 σ) ∧ (x1 = 0 → Q (-1 : Int32) σ))
set_option maxHeartbeats 4000000 in
set_option maxRecDepth 100000 in
theorem eX2_featuresOf {l : Launch} {E : EC} {lay : Nat → Nat → Nat} {L : List (Nat × Nat)} {A : Nat → Prop} {N : Nat} {σ : St} {a1 : Int64} {Q : Int32 → St → Prop} (hf : fX2_featuresOf N σ a1 Q) (hm0 : (2, 0) ∈ L) : Met l yX2_featuresOf (.code yX2_featuresOf cX2_featuresOf 4 (some .int) :: big) rmX2_featuresOf (va_Pc [.ref (lay 2 0), .long a1] (Bp E lay L A σ)) (va_Qi Q (Bd E lay L A) A) 0 0 A := by
  refine x_met (by decide +kernel) (Nat.le_of_ble_eq_true rfl) ?_
  intro p e s m args below meth c ls C hret hw hl
  have hx := C.1
  have hb := C.2.1
  have hl : lv_has ls 4 [(0, .ref (lay 2 0)), (1, .long a1)] := hl
  unfold fX2_featuresOf at hf
  refine lv_lload_n hx hb dX2_featuresOf_0 rfl (lv_at hl 1 rfl) ?_
  refine lv_l2i hx hb dX2_featuresOf_1 rfl ?_
  refine lv_iconst (v := 1) hx hb dX2_featuresOf_2 (by decide) ?_
  refine lv_aload_n hx hb dX2_featuresOf_3 rfl (lv_at hl 0 rfl) ?_
  refine x_get (v := .int (sF σ 2 0 2)) (j := 2) C hw hm0 rfl (by decide) (by decide) rfl q80 dX2_featuresOf_4 ?_
  refine lv_ishl hx hb dX2_featuresOf_7 ?_
  refine lv_iconst (v := 1) hx hb dX2_featuresOf_8 (by decide) ?_
  refine lv_isub hx hb dX2_featuresOf_9 ?_
  refine lv_iand hx hb dX2_featuresOf_10 ?_
  refine lv_topi (fun x1 ex1 => ?_)
  replace hf := hf x1 ex1
  refine lv_istore_n (lv' := [(3, .int x1), (0, .ref (lay 2 0)), (1, .long a1)]) hx hb dX2_featuresOf_11 rfl hl (by decide) rfl (fun ls hl => ?_)
  refine lv_iload_n hx hb dX2_featuresOf_12 rfl (lv_at hl 0 rfl) ?_
  refine lv_if_ne (tgt := 20) hx hb dX2_featuresOf_13 (by decide) (fun c2 => ?_) (fun c2 => ?_)
  · replace hf := hf.1 c2
    refine lv_iload_n hx hb dX2_featuresOf_20 rfl (lv_at hl 0 rfl) ?_
    exact x_iret C hret hw hf dX2_featuresOf_21
  · replace hf := hf.2 c2
    refine lv_iconst (v := (-1)) hx hb dX2_featuresOf_16 (by decide) ?_
    refine lv_goto (tgt := 21) hx hb dX2_featuresOf_17 (by decide) ?_
    exact x_iret C hret hw hf dX2_featuresOf_21
-- X2_wordFeatures
abbrev rmX2_wordFeatures : Room := { frames := 0, cells := 0, slots := 0, locals := 0 }
def fX2_wordFeatures_b36_4 (N : Nat) (Q : Int32 → St → Prop) (Kh : St → Int32 → Int32 → Prop) (Kx42 : St → Int32 → Prop) (σ : St) (v1 : Int32) (v2 : Int32) : Prop := Kh σ v1 (v2 + (1 : Int32))
def fX2_wordFeatures_l4 (N : Nat) (Q : Int32 → St → Prop) (Kx42 : St → Int32 → Prop) : Nat → St → Int32 → Int32 → Prop
  | 0, _, _, _ => False
  | n + 1, σ, v1, v2 => (((sF σ 2 0 2) ≤ v2 → Kx42 σ v1) ∧ (¬ (sF σ 2 0 2) ≤ v2 → (((12 : Int32) ≤ v2 → Kx42 σ v1) ∧ (¬ (12 : Int32) ≤ v2 → (vp_in v2 12 ∧ ((¬ (sA σ 31 0 (v2).toNatClampNeg) = 0 → fX2_wordFeatures_b36_4 N Q (fun (σ : St) (w1 : Int32) (w2 : Int32) => fX2_wordFeatures_l4 N Q Kx42 n σ w1 w2) Kx42 σ v1 v2) ∧ ((sA σ 31 0 (v2).toNatClampNeg) = 0 → fX2_wordFeatures_b36_4 N Q (fun (σ : St) (w1 : Int32) (w2 : Int32) => fX2_wordFeatures_l4 N Q Kx42 n σ w1 w2) Kx42 σ (v1 ||| ((1 : Int32) <<< (v2 &&& 31))) v2)))))))
set_option maxHeartbeats 4000000 in
set_option maxRecDepth 100000 in
theorem eX2_wordFeatures_b36_4 {p : Program} {l : Launch} {e : Env} {s : State} {m : MethodId} {args : Array Value} {below : List Frame} {meth : Method} {c : Code} {E : EC} {lay : Nat → Nat → Nat} {L : List (Nat × Nat)} {A : Nat → Prop} (C : Cx p s m args c meth yX2_wordFeatures.cls cX2_wordFeatures 3 E A) (hret : meth.sig.returnType = some .int) {N : Nat} {Q : Int32 → St → Prop} {Kh : St → Int32 → Int32 → Prop} {Kx42 : St → Int32 → Prop} (hm0 : (2, 0) ∈ L) (hKh : ∀ (σ : St) (w1 : Int32) (w2 : Int32) (H : Heap) (locs : List Loc) (ls : Array Slot), Kh σ w1 w2 → Wo E lay L A s σ H locs → lv_has ls 3 [(0, .ref (lay 2 0)), (1, .int w1), (2, .int w2)] → W p l e rmX2_wordFeatures s m args below meth c H locs 0 0 (MQ below (va_Qi Q (Bd E lay L A) A) args s 0 0 A) (F0 m 4 ls [])) (hK42 : ∀ (σ : St) (w1 : Int32) (H : Heap) (locs : List Loc) (ls : Array Slot), Kx42 σ w1 → Wo E lay L A s σ H locs → lv_has ls 3 [(1, .int w1)] → W p l e rmX2_wordFeatures s m args below meth c H locs 0 0 (MQ below (va_Qi Q (Bd E lay L A) A) args s 0 0 A) (F0 m 42 ls [])) (σ : St) (v1 : Int32) (v2 : Int32) (H : Heap) (locs : List Loc) (ls : Array Slot) (hf : fX2_wordFeatures_b36_4 N Q Kh Kx42 σ v1 v2) (hw : Wo E lay L A s σ H locs) (hl : lv_has ls 3 [(0, .ref (lay 2 0)), (1, .int v1), (2, .int v2)]) : W p l e rmX2_wordFeatures s m args below meth c H locs 0 0 (MQ below (va_Qi Q (Bd E lay L A) A) args s 0 0 A) (F0 m 36 ls []) := by
  have hx := C.1
  have hb := C.2.1
  unfold fX2_wordFeatures_b36_4 at hf
  refine lv_iinc (v := (v2 + (1 : Int32))) (lv' := [(2, .int (v2 + (1 : Int32))), (0, .ref (lay 2 0)), (1, .int v1)]) hx hb dX2_wordFeatures_36 hl (k := 2) rfl (by rfl) (by decide) rfl (fun ls hl => ?_)
  refine lv_goto (tgt := 4) hx hb dX2_wordFeatures_39 (by decide) ?_
  exact hKh σ v1 (v2 + (1 : Int32)) _ _ _ hf hw (lv_sub hl [1, 2, 0] rfl)
set_option maxHeartbeats 4000000 in
set_option maxRecDepth 100000 in
theorem eX2_wordFeatures_l4 {p : Program} {l : Launch} {e : Env} {s : State} {m : MethodId} {args : Array Value} {below : List Frame} {meth : Method} {c : Code} {E : EC} {lay : Nat → Nat → Nat} {L : List (Nat × Nat)} {A : Nat → Prop} (C : Cx p s m args c meth yX2_wordFeatures.cls cX2_wordFeatures 3 E A) (hret : meth.sig.returnType = some .int) {N : Nat} {Q : Int32 → St → Prop} {Kx42 : St → Int32 → Prop} (hm0 : (2, 0) ∈ L) (hK42 : ∀ (σ : St) (w1 : Int32) (H : Heap) (locs : List Loc) (ls : Array Slot), Kx42 σ w1 → Wo E lay L A s σ H locs → lv_has ls 3 [(1, .int w1)] → W p l e rmX2_wordFeatures s m args below meth c H locs 0 0 (MQ below (va_Qi Q (Bd E lay L A) A) args s 0 0 A) (F0 m 42 ls [])) : ∀ (n : Nat) (σ : St) (v1 : Int32) (v2 : Int32) (H : Heap) (locs : List Loc) (ls : Array Slot), fX2_wordFeatures_l4 N Q Kx42 n σ v1 v2 → Wo E lay L A s σ H locs → lv_has ls 3 [(0, .ref (lay 2 0)), (1, .int v1), (2, .int v2)] → W p l e rmX2_wordFeatures s m args below meth c H locs 0 0 (MQ below (va_Qi Q (Bd E lay L A) A) args s 0 0 A) (F0 m 4 ls []) := by
  have hx := C.1
  have hb := C.2.1
  intro n
  induction n with
  | zero => intro σ v1 v2 H locs ls hf; exact hf.elim
  | succ n ih =>
    intro σ v1 v2 H locs ls hf hw hl
    rw [fX2_wordFeatures_l4] at hf
    refine lv_iload_n hx hb dX2_wordFeatures_4 rfl (lv_at hl 2 rfl) ?_
    refine lv_aload_n hx hb dX2_wordFeatures_5 rfl (lv_at hl 0 rfl) ?_
    refine x_get (v := .int (sF σ 2 0 2)) (j := 2) C hw hm0 rfl (by decide) (by decide) rfl q80 dX2_wordFeatures_6 ?_
    refine lv_icmp_ge (tgt := 42) hx hb dX2_wordFeatures_9 (by decide) (fun c1 => ?_) (fun c1 => ?_)
    · replace hf := hf.1 c1
      exact hK42 σ v1 _ _ _ hf hw (lv_sub hl [1] rfl)
    · replace hf := hf.2 c1
      refine lv_iload_n hx hb dX2_wordFeatures_12 rfl (lv_at hl 2 rfl) ?_
      refine lv_aload_n hx hb dX2_wordFeatures_13 rfl (lv_at hl 0 rfl) ?_
      have hm_2 : (31, 0) ∈ L := hw.2.2.2.1 2 0 hm0 1 (by decide) (by decide) rfl
      refine x_get (v := .ref (lay 31 0)) (j := 1) C hw hm0 rfl (by decide) (by decide) rfl q79 dX2_wordFeatures_14 ?_
      refine x_alen (v := 12) C hw hm_2 (by decide) (by decide) (by decide) dX2_wordFeatures_17 ?_
      refine lv_icmp_ge (tgt := 42) hx hb dX2_wordFeatures_18 (by decide) (fun c3 => ?_) (fun c3 => ?_)
      · replace hf := hf.1 c3
        exact hK42 σ v1 _ _ _ hf hw (lv_sub hl [1] rfl)
      · replace hf := hf.2 c3
        refine lv_aload_n hx hb dX2_wordFeatures_21 rfl (lv_at hl 0 rfl) ?_
        have hm_4 : (31, 0) ∈ L := hw.2.2.2.1 2 0 hm0 1 (by decide) (by decide) rfl
        refine x_get (v := .ref (lay 31 0)) (j := 1) C hw hm0 rfl (by decide) (by decide) rfl q79 dX2_wordFeatures_22 ?_
        refine lv_iload_n hx hb dX2_wordFeatures_25 rfl (lv_at hl 2 rfl) ?_
        refine x_zald C hw hm_4 (by decide) rfl hf.1 dX2_wordFeatures_26 ?_
        replace hf := hf.2
        refine lv_if_ne (tgt := 36) hx hb dX2_wordFeatures_27 (by decide) (fun c5 => ?_) (fun c5 => ?_)
        · replace hf := hf.1 c5
          exact eX2_wordFeatures_b36_4 C hret hm0 ih hK42 σ v1 v2 _ _ _ hf hw (lv_sub hl [0, 1, 2] rfl)
        · replace hf := hf.2 c5
          refine lv_iload_n hx hb dX2_wordFeatures_30 rfl (lv_at hl 1 rfl) ?_
          refine lv_iconst (v := 1) hx hb dX2_wordFeatures_31 (by decide) ?_
          refine lv_iload_n hx hb dX2_wordFeatures_32 rfl (lv_at hl 2 rfl) ?_
          refine lv_ishl hx hb dX2_wordFeatures_33 ?_
          refine lv_ior hx hb dX2_wordFeatures_34 ?_
          refine lv_istore_n (lv' := [(1, .int (v1 ||| ((1 : Int32) <<< (v2 &&& 31)))), (0, .ref (lay 2 0)), (2, .int v2)]) hx hb dX2_wordFeatures_35 rfl hl (by decide) rfl (fun ls hl => ?_)
          exact eX2_wordFeatures_b36_4 C hret hm0 ih hK42 σ (v1 ||| ((1 : Int32) <<< (v2 &&& 31))) v2 _ _ _ hf hw (lv_sub hl [1, 0, 2] rfl)
def fX2_wordFeatures (N : Nat) (σ : St) (Q : Int32 → St → Prop) : Prop := fX2_wordFeatures_l4 N Q (fun (σ6 : St) (u42_1 : Int32) => Q u42_1 σ6) N σ (0 : Int32) (0 : Int32)
set_option maxHeartbeats 4000000 in
set_option maxRecDepth 100000 in
theorem eX2_wordFeatures {l : Launch} {E : EC} {lay : Nat → Nat → Nat} {L : List (Nat × Nat)} {A : Nat → Prop} {N : Nat} {σ : St} {Q : Int32 → St → Prop} (hf : fX2_wordFeatures N σ Q) (hm0 : (2, 0) ∈ L) : Met l yX2_wordFeatures (.code yX2_wordFeatures cX2_wordFeatures 3 (some .int) :: big) rmX2_wordFeatures (va_Pc [.ref (lay 2 0)] (Bp E lay L A σ)) (va_Qi Q (Bd E lay L A) A) 0 0 A := by
  refine x_met (by decide +kernel) (Nat.le_of_ble_eq_true rfl) ?_
  intro p e s m args below meth c ls C hret hw hl
  have hx := C.1
  have hb := C.2.1
  have hl : lv_has ls 3 [(0, .ref (lay 2 0))] := hl
  unfold fX2_wordFeatures at hf
  refine lv_iconst (v := 0) hx hb dX2_wordFeatures_0 (by decide) ?_
  refine lv_istore_n (lv' := [(1, .int (0 : Int32)), (0, .ref (lay 2 0))]) hx hb dX2_wordFeatures_1 rfl hl (by decide) rfl (fun ls hl => ?_)
  refine lv_iconst (v := 0) hx hb dX2_wordFeatures_2 (by decide) ?_
  refine lv_istore_n (lv' := [(2, .int (0 : Int32)), (1, .int (0 : Int32)), (0, .ref (lay 2 0))]) hx hb dX2_wordFeatures_3 rfl hl (by decide) rfl (fun ls hl => ?_)
  refine eX2_wordFeatures_l4 C hret hm0 ?_ N σ (0 : Int32) (0 : Int32) _ _ _ hf hw (lv_sub hl [2, 1, 0] rfl)
  · intro σ6 u42_1 H locs ls hf hw hl
    refine lv_iload_n hx hb dX2_wordFeatures_42 rfl (lv_at hl 0 rfl) ?_
    exact x_iret C hret hw hf dX2_wordFeatures_43
-- X3_priceWindows
abbrev rmX3_priceWindows : Room := { frames := 5, cells := 0, slots := 0, locals := 120 }
def fX3_priceWindows_l15 (N : Nat) (a1 : Nat) (a2 : Int32) (a3 : Int32) (a4 : Int32) (Q : St → Prop) (Kx135 : St → Prop) : Nat → St → Int32 → Int32 → Prop
  | 0, _, _, _ => False
  | n + 1, σ, v7, v8 => (((sF σ 4 a1 4) ≤ v8 → Kx135 σ) ∧ (¬ (sF σ 4 a1 4) ≤ v8 → (((100 : Int32) ≤ (sF σ 3 0 7) → Kx135 σ) ∧ (¬ (100 : Int32) ≤ (sF σ 3 0 7) → fX2_tallyWords N σ a1 v8 (if (sF σ 4 a1 4) < (v8 + a2) then (sF σ 4 a1 4) else (v8 + a2)) 15 (fun (σ7 : St) => fX2_readRates N σ7 15 2 (fun (σ10 : St) => fX1_farnessOf N σ10 a3 2 v7 (fun (r14 : Int32) (σ13 : St) => (vp_in (sF σ10 3 0 7) 100 ∧ ∀ σ15 : St, σ15 = setA σ13 34 0 ((sF σ10 3 0 7)).toNatClampNeg r14 → fX1_farnessOf N σ15 a4 2 v7 (fun (r19 : Int32) (σ18 : St) => (vp_in (sF σ15 3 0 7) 100 ∧ ∀ σ20 : St, σ20 = setA σ18 35 0 ((sF σ15 3 0 7)).toNatClampNeg r19 → ∀ σ21 : St, σ21 = setF σ20 3 0 7 ((sF σ20 3 0 7) + (1 : Int32)) → fX3_priceWindows_l15 N a1 a2 a3 a4 Q Kx135 n σ21 v7 (v8 + a2)))))))))))
set_option maxHeartbeats 4000000 in
set_option maxRecDepth 100000 in
theorem eX3_priceWindows_l15 {p : Program} {l : Launch} {e : Env} {s : State} {m : MethodId} {args : Array Value} {below : List Frame} {meth : Method} {c : Code} {E : EC} {lay : Nat → Nat → Nat} {L : List (Nat × Nat)} {A : Nat → Prop} (C : Cx p s m args c meth yX3_priceWindows.cls cX3_priceWindows 9 E A) (hret : meth.sig.returnType = none) {N : Nat} {a1 : Nat} {a2 : Int32} {a3 : Int32} {a4 : Int32} {Q : St → Prop} {Kx135 : St → Prop} (hm0 : (3, 0) ∈ L) (hm1 : (4, a1) ∈ L) (hm5 : (1, 0) ∈ L) (hm6 : (2, 0) ∈ L) (hK135 : ∀ (σ : St) (H : Heap) (locs : List Loc) (ls : Array Slot), Kx135 σ → Wo E lay L A s σ H locs → lv_has ls 9 [] → W p l e rmX3_priceWindows s m args below meth c H locs 0 0 (MQ below (va_Qv Q (Bd E lay L A) A) args s 0 0 A) (F0 m 135 ls [])) : ∀ (n : Nat) (σ : St) (v7 : Int32) (v8 : Int32) (H : Heap) (locs : List Loc) (ls : Array Slot), fX3_priceWindows_l15 N a1 a2 a3 a4 Q Kx135 n σ v7 v8 → Wo E lay L A s σ H locs → lv_has ls 9 [(0, .ref (lay 3 0)), (1, .ref (lay 4 a1)), (2, .int a2), (3, .int a3), (4, .int a4), (5, .ref (lay 1 0)), (6, .ref (lay 2 0)), (7, .int v7), (8, .int v8)] → W p l e rmX3_priceWindows s m args below meth c H locs 0 0 (MQ below (va_Qv Q (Bd E lay L A) A) args s 0 0 A) (F0 m 15 ls []) := by
  have hx := C.1
  have hb := C.2.1
  intro n
  induction n with
  | zero => intro σ v7 v8 H locs ls hf; exact hf.elim
  | succ n ih =>
    intro σ v7 v8 H locs ls hf hw hl
    rw [fX3_priceWindows_l15] at hf
    refine lv_iload hx hb dX3_priceWindows_15 (lv_at hl 8 rfl) ?_
    refine lv_aload_n hx hb dX3_priceWindows_17 rfl (lv_at hl 1 rfl) ?_
    refine x_getN (v := .int (sF σ 4 a1 4)) (j := 4) (host := "WhoseHand") C hw hm1 rfl (by decide) (by decide) rfl q245 dX3_priceWindows_18 ?_
    refine lv_icmp_ge (tgt := 135) hx hb dX3_priceWindows_21 (by decide) (fun c4 => ?_) (fun c4 => ?_)
    · replace hf := hf.1 c4
      exact hK135 σ _ _ _ hf hw (lv_sub hl [] rfl)
    · replace hf := hf.2 c4
      refine lv_aload_n hx hb dX3_priceWindows_24 rfl (lv_at hl 0 rfl) ?_
      refine x_get (v := .int (sF σ 3 0 7)) (j := 7) C hw hm0 rfl (by decide) (by decide) rfl q146 dX3_priceWindows_25 ?_
      refine lv_bipush (v := 100) hx hb dX3_priceWindows_28 (by decide) ?_
      refine lv_icmp_ge (tgt := 135) hx hb dX3_priceWindows_30 (by decide) (fun c5 => ?_) (fun c5 => ?_)
      · replace hf := hf.1 c5
        exact hK135 σ _ _ _ hf hw (lv_sub hl [] rfl)
      · replace hf := hf.2 c5
        refine lv_aload hx hb dX3_priceWindows_33 (lv_at hl 6 rfl) ?_
        refine lv_aload_n hx hb dX3_priceWindows_35 rfl (lv_at hl 1 rfl) ?_
        refine lv_iload hx hb dX3_priceWindows_36 (lv_at hl 8 rfl) ?_
        refine lv_iload hx hb dX3_priceWindows_38 (lv_at hl 8 rfl) ?_
        refine lv_iload_n hx hb dX3_priceWindows_40 rfl (lv_at hl 2 rfl) ?_
        refine lv_iadd hx hb dX3_priceWindows_41 ?_
        refine lv_aload_n hx hb dX3_priceWindows_42 rfl (lv_at hl 1 rfl) ?_
        refine x_getN (v := .int (sF σ 4 a1 4)) (j := 4) (host := "WhoseHand") C hw hm1 rfl (by decide) (by decide) rfl q245 dX3_priceWindows_43 ?_
        refine va_mmin hx hb (C.2.2.1.trans hl.1.symm) C.2.2.2.1 (C.2.2.2.2.1 _ q732) (C.2.2.2.2.1 _ q439) (C.2.2.2.2.1 _ q56) (C.2.2.2.2.1 _ q440) (Nat.le_of_ble_eq_true rfl) (Nat.le_of_ble_eq_true rfl) (Nat.zero_le _) (Nat.zero_le _) dX3_priceWindows_46 ?_
        refine lv_aload_n hx hb dX3_priceWindows_49 rfl (lv_at hl 0 rfl) ?_
        have hm_6 : (7, 15) ∈ L := hw.2.2.2.1 3 0 hm0 6 (by decide) (by decide) rfl
        refine x_get (v := .ref (lay 7 15)) (j := 6) C hw hm0 rfl (by decide) (by decide) rfl q145 dX3_priceWindows_50 ?_
        refine x_runv hw (x_V (n := 4) (rest := []) C hw hm6 (by decide) (eX2_tallyWords hf hm6 hm1 hm_6) q733 q734 q735 q45 q736 rfl rfl (by decide +kernel) ⟨Nat.le_of_ble_eq_true rfl, Nat.le_of_ble_eq_true rfl⟩ rfl hl.1 rfl (Nat.le_of_ble_eq_true rfl) dX3_priceWindows_53) (fun σ7 H locs hf hw => ?_)
        try dsimp only at hf
        refine lv_aload hx hb dX3_priceWindows_56 (lv_at hl 6 rfl) ?_
        refine lv_aload_n hx hb dX3_priceWindows_58 rfl (lv_at hl 0 rfl) ?_
        have hm_8 : (7, 15) ∈ L := hw.2.2.2.1 3 0 hm0 6 (by decide) (by decide) rfl
        refine x_get (v := .ref (lay 7 15)) (j := 6) C hw hm0 rfl (by decide) (by decide) rfl q145 dX3_priceWindows_59 ?_
        refine lv_aload_n hx hb dX3_priceWindows_62 rfl (lv_at hl 0 rfl) ?_
        have hm_9 : (23, 2) ∈ L := hw.2.2.2.1 3 0 hm0 5 (by decide) (by decide) rfl
        refine x_get (v := .ref (lay 23 2)) (j := 5) C hw hm0 rfl (by decide) (by decide) rfl q144 dX3_priceWindows_63 ?_
        refine x_runv hw (x_V (n := 2) (rest := []) C hw hm6 (by decide) (eX2_readRates hf hm6 hm_8 hm_9) q739 q629 q630 q45 q631 rfl rfl (by decide +kernel) ⟨Nat.le_of_ble_eq_true rfl, Nat.le_of_ble_eq_true rfl⟩ rfl hl.1 rfl (Nat.le_of_ble_eq_true rfl) dX3_priceWindows_66) (fun σ10 H locs hf hw => ?_)
        try dsimp only at hf
        refine lv_aload_n hx hb dX3_priceWindows_69 rfl (lv_at hl 0 rfl) ?_
        have hm_11 : (34, 0) ∈ L := hw.2.2.2.1 3 0 hm0 0 (by decide) (by decide) rfl
        refine x_get (v := .ref (lay 34 0)) (j := 0) C hw hm0 rfl (by decide) (by decide) rfl q139 dX3_priceWindows_70 ?_
        refine lv_aload_n hx hb dX3_priceWindows_73 rfl (lv_at hl 0 rfl) ?_
        refine x_get (v := .int (sF σ10 3 0 7)) (j := 7) C hw hm0 rfl (by decide) (by decide) rfl q146 dX3_priceWindows_74 ?_
        refine lv_aload hx hb dX3_priceWindows_77 (lv_at hl 5 rfl) ?_
        refine lv_iload_n hx hb dX3_priceWindows_79 rfl (lv_at hl 3 rfl) ?_
        refine lv_aload_n hx hb dX3_priceWindows_80 rfl (lv_at hl 0 rfl) ?_
        have hm_12 : (23, 2) ∈ L := hw.2.2.2.1 3 0 hm0 5 (by decide) (by decide) rfl
        refine x_get (v := .ref (lay 23 2)) (j := 5) C hw hm0 rfl (by decide) (by decide) rfl q144 dX3_priceWindows_81 ?_
        refine lv_aload hx hb dX3_priceWindows_84 (lv_at hl 6 rfl) ?_
        refine lv_iload hx hb dX3_priceWindows_86 (lv_at hl 7 rfl) ?_
        refine x_runi hw (x_V (n := 4) (rest := [.int (sF σ10 3 0 7), .ref (lay 34 0)]) C hw hm5 (by decide) (eX1_farnessOf hf hm5 hm_12 hm6) q740 q671 q672 q46 q673 rfl rfl (by decide +kernel) ⟨Nat.le_of_ble_eq_true rfl, Nat.le_of_ble_eq_true rfl⟩ rfl hl.1 rfl (Nat.le_of_ble_eq_true rfl) dX3_priceWindows_88) (fun r14 σ13 H locs hf hw => ?_)
        try dsimp only at hf
        refine x_iast C hw hm_11 (by decide) rfl hf.1 dX3_priceWindows_91 (fun σ15 H locs eσ15 hw => ?_)
        replace hf := hf.2 σ15 eσ15
        refine lv_aload_n hx hb dX3_priceWindows_92 rfl (lv_at hl 0 rfl) ?_
        have hm_16 : (35, 0) ∈ L := hw.2.2.2.1 3 0 hm0 1 (by decide) (by decide) rfl
        refine x_get (v := .ref (lay 35 0)) (j := 1) C hw hm0 rfl (by decide) (by decide) rfl q140 dX3_priceWindows_93 ?_
        refine lv_aload_n hx hb dX3_priceWindows_96 rfl (lv_at hl 0 rfl) ?_
        refine x_get (v := .int (sF σ15 3 0 7)) (j := 7) C hw hm0 rfl (by decide) (by decide) rfl q146 dX3_priceWindows_97 ?_
        refine lv_aload hx hb dX3_priceWindows_100 (lv_at hl 5 rfl) ?_
        refine lv_iload hx hb dX3_priceWindows_102 (lv_at hl 4 rfl) ?_
        refine lv_aload_n hx hb dX3_priceWindows_104 rfl (lv_at hl 0 rfl) ?_
        have hm_17 : (23, 2) ∈ L := hw.2.2.2.1 3 0 hm0 5 (by decide) (by decide) rfl
        refine x_get (v := .ref (lay 23 2)) (j := 5) C hw hm0 rfl (by decide) (by decide) rfl q144 dX3_priceWindows_105 ?_
        refine lv_aload hx hb dX3_priceWindows_108 (lv_at hl 6 rfl) ?_
        refine lv_iload hx hb dX3_priceWindows_110 (lv_at hl 7 rfl) ?_
        refine x_runi hw (x_V (n := 4) (rest := [.int (sF σ15 3 0 7), .ref (lay 35 0)]) C hw hm5 (by decide) (eX1_farnessOf hf hm5 hm_17 hm6) q740 q671 q672 q46 q673 rfl rfl (by decide +kernel) ⟨Nat.le_of_ble_eq_true rfl, Nat.le_of_ble_eq_true rfl⟩ rfl hl.1 rfl (Nat.le_of_ble_eq_true rfl) dX3_priceWindows_112) (fun r19 σ18 H locs hf hw => ?_)
        try dsimp only at hf
        refine x_iast C hw hm_16 (by decide) rfl hf.1 dX3_priceWindows_115 (fun σ20 H locs eσ20 hw => ?_)
        replace hf := hf.2 σ20 eσ20
        refine lv_aload_n hx hb dX3_priceWindows_116 rfl (lv_at hl 0 rfl) ?_
        refine lv_dup hx hb dX3_priceWindows_117 rfl ?_
        refine x_get (v := .int (sF σ20 3 0 7)) (j := 7) C hw hm0 rfl (by decide) (by decide) rfl q146 dX3_priceWindows_118 ?_
        refine lv_iconst (v := 1) hx hb dX3_priceWindows_121 (by decide) ?_
        refine lv_iadd hx hb dX3_priceWindows_122 ?_
        refine x_putI (j := 7) (ty := .int) C hw hm0 rfl (by decide) (by decide) rfl rfl (by decide +kernel) rfl rfl q146 dX3_priceWindows_123 (fun σ21 H locs eσ21 hw => ?_)
        replace hf := hf σ21 eσ21
        refine lv_iload hx hb dX3_priceWindows_126 (lv_at hl 8 rfl) ?_
        refine lv_iload_n hx hb dX3_priceWindows_128 rfl (lv_at hl 2 rfl) ?_
        refine lv_iadd hx hb dX3_priceWindows_129 ?_
        refine lv_istore (lv' := [(8, .int (v8 + a2)), (0, .ref (lay 3 0)), (1, .ref (lay 4 a1)), (2, .int a2), (3, .int a3), (4, .int a4), (5, .ref (lay 1 0)), (6, .ref (lay 2 0)), (7, .int v7)]) hx hb dX3_priceWindows_130 hl (by decide) rfl (fun ls hl => ?_)
        refine lv_goto (tgt := 15) hx hb dX3_priceWindows_132 (by decide) ?_
        exact ih σ21 v7 (v8 + a2) _ _ _ hf hw (lv_sub hl [1, 2, 3, 4, 5, 6, 7, 8, 0] rfl)
def fX3_priceWindows (N : Nat) (σ : St) (a1 : Nat) (a2 : Int32) (a3 : Int32) (a4 : Int32) (Q : St → Prop) : Prop := fX2_wordFeatures N σ (fun (r2 : Int32) (σ1 : St) => ∀ σ3 : St, σ3 = setF σ1 3 0 7 (0 : Int32) → fX3_priceWindows_l15 N a1 a2 a3 a4 Q (fun (σ22 : St) => Q σ22) N σ3 r2 (0 : Int32))
set_option maxHeartbeats 4000000 in
set_option maxRecDepth 100000 in
theorem eX3_priceWindows {l : Launch} {E : EC} {lay : Nat → Nat → Nat} {L : List (Nat × Nat)} {A : Nat → Prop} {N : Nat} {σ : St} {a1 : Nat} {a2 : Int32} {a3 : Int32} {a4 : Int32} {Q : St → Prop} (hf : fX3_priceWindows N σ a1 a2 a3 a4 Q) (hm0 : (3, 0) ∈ L) (hm1 : (4, a1) ∈ L) (hm5 : (1, 0) ∈ L) (hm6 : (2, 0) ∈ L) : Met l yX3_priceWindows (.code yX3_priceWindows cX3_priceWindows 9 (none) :: big) rmX3_priceWindows (va_Pc [.ref (lay 3 0), .ref (lay 4 a1), .int a2, .int a3, .int a4, .ref (lay 1 0), .ref (lay 2 0)] (Bp E lay L A σ)) (va_Qv Q (Bd E lay L A) A) 0 0 A := by
  refine x_met (by decide +kernel) (Nat.le_of_ble_eq_true rfl) ?_
  intro p e s m args below meth c ls C hret hw hl
  have hx := C.1
  have hb := C.2.1
  have hl : lv_has ls 9 [(0, .ref (lay 3 0)), (1, .ref (lay 4 a1)), (2, .int a2), (3, .int a3), (4, .int a4), (5, .ref (lay 1 0)), (6, .ref (lay 2 0))] := hl
  unfold fX3_priceWindows at hf
  refine lv_aload hx hb dX3_priceWindows_0 (lv_at hl 6 rfl) ?_
  refine x_runi hw (x_V (n := 0) (rest := []) C hw hm6 (by decide) (eX2_wordFeatures hf hm6) q728 q729 q730 q45 q731 rfl rfl (by decide +kernel) ⟨Nat.le_of_ble_eq_true rfl, Nat.le_of_ble_eq_true rfl⟩ rfl hl.1 rfl (Nat.le_of_ble_eq_true rfl) dX3_priceWindows_2) (fun r2 σ1 H locs hf hw => ?_)
  try dsimp only at hf
  refine lv_istore (lv' := [(7, .int r2), (0, .ref (lay 3 0)), (1, .ref (lay 4 a1)), (2, .int a2), (3, .int a3), (4, .int a4), (5, .ref (lay 1 0)), (6, .ref (lay 2 0))]) hx hb dX3_priceWindows_5 hl (by decide) rfl (fun ls hl => ?_)
  refine lv_aload_n hx hb dX3_priceWindows_7 rfl (lv_at hl 1 rfl) ?_
  refine lv_iconst (v := 0) hx hb dX3_priceWindows_8 (by decide) ?_
  refine x_putI (j := 7) (ty := .int) C hw hm0 rfl (by decide) (by decide) rfl rfl (by decide +kernel) rfl rfl q146 dX3_priceWindows_9 (fun σ3 H locs eσ3 hw => ?_)
  replace hf := hf σ3 eσ3
  refine lv_iconst (v := 0) hx hb dX3_priceWindows_12 (by decide) ?_
  refine lv_istore (lv' := [(8, .int (0 : Int32)), (7, .int r2), (0, .ref (lay 3 0)), (1, .ref (lay 4 a1)), (2, .int a2), (3, .int a3), (4, .int a4), (5, .ref (lay 1 0)), (6, .ref (lay 2 0))]) hx hb dX3_priceWindows_13 hl (by decide) rfl (fun ls hl => ?_)
  refine eX3_priceWindows_l15 C hret hm0 hm1 hm5 hm6 ?_ N σ3 r2 (0 : Int32) _ _ _ hf hw (lv_sub hl [2, 3, 4, 5, 6, 7, 8, 1, 0] rfl)
  · intro σ22 H locs ls hf hw hl
    exact x_vret C hret hw hf dX3_priceWindows_135
-- X3_priceTails
abbrev rmX3_priceTails : Room := { frames := 1, cells := 0, slots := 0, locals := 23 }
def fX3_priceTails_l27 (N : Nat) (a1 : Int32) (Q : St → Prop) (Kx102 : St → Prop) : Nat → St → Int32 → Prop
  | 0, _, _ => False
  | n + 1, σ, v2 => ((v2 < 0 → Kx102 σ) ∧ (¬ v2 < 0 → (vp_in (v2 + (1 : Int32)) 101 ∧ (vp_in (v2 + (1 : Int32)) 101 ∧ (vp_in v2 100 ∧ (vp_in v2 101 ∧ ∀ σ10 : St, σ10 = setB σ 36 0 (v2).toNatClampNeg ((((sA σ 34 0 (v2).toNatClampNeg)).toInt64) + (if ((sB σ 37 0 ((v2 + (1 : Int32))).toNatClampNeg) + ((a1).toInt64)) < (sB σ 36 0 ((v2 + (1 : Int32))).toNatClampNeg) then ((sB σ 37 0 ((v2 + (1 : Int32))).toNatClampNeg) + ((a1).toInt64)) else (sB σ 36 0 ((v2 + (1 : Int32))).toNatClampNeg))) → (vp_in v2 100 ∧ (vp_in v2 101 ∧ ∀ σ13 : St, σ13 = setB σ10 37 0 (v2).toNatClampNeg ((((sA σ10 35 0 (v2).toNatClampNeg)).toInt64) + (if ((sB σ 36 0 ((v2 + (1 : Int32))).toNatClampNeg) + ((a1).toInt64)) < (sB σ 37 0 ((v2 + (1 : Int32))).toNatClampNeg) then ((sB σ 36 0 ((v2 + (1 : Int32))).toNatClampNeg) + ((a1).toInt64)) else (sB σ 37 0 ((v2 + (1 : Int32))).toNatClampNeg))) → fX3_priceTails_l27 N a1 Q Kx102 n σ13 (v2 + (-1 : Int32))))))))))
set_option maxHeartbeats 4000000 in
set_option maxRecDepth 100000 in
theorem eX3_priceTails_l27 {p : Program} {l : Launch} {e : Env} {s : State} {m : MethodId} {args : Array Value} {below : List Frame} {meth : Method} {c : Code} {E : EC} {lay : Nat → Nat → Nat} {L : List (Nat × Nat)} {A : Nat → Prop} (C : Cx p s m args c meth yX3_priceTails.cls cX3_priceTails 7 E A) (hret : meth.sig.returnType = none) {N : Nat} {a1 : Int32} {Q : St → Prop} {Kx102 : St → Prop} (hm0 : (3, 0) ∈ L) (hK102 : ∀ (σ : St) (H : Heap) (locs : List Loc) (ls : Array Slot), Kx102 σ → Wo E lay L A s σ H locs → lv_has ls 7 [] → W p l e rmX3_priceTails s m args below meth c H locs 0 0 (MQ below (va_Qv Q (Bd E lay L A) A) args s 0 0 A) (F0 m 102 ls [])) : ∀ (n : Nat) (σ : St) (v2 : Int32) (H : Heap) (locs : List Loc) (ls : Array Slot), fX3_priceTails_l27 N a1 Q Kx102 n σ v2 → Wo E lay L A s σ H locs → lv_has ls 7 [(0, .ref (lay 3 0)), (1, .int a1), (2, .int v2)] → W p l e rmX3_priceTails s m args below meth c H locs 0 0 (MQ below (va_Qv Q (Bd E lay L A) A) args s 0 0 A) (F0 m 27 ls []) := by
  have hx := C.1
  have hb := C.2.1
  intro n
  induction n with
  | zero => intro σ v2 H locs ls hf; exact hf.elim
  | succ n ih =>
    intro σ v2 H locs ls hf hw hl
    rw [fX3_priceTails_l27] at hf
    refine lv_iload_n hx hb dX3_priceTails_27 rfl (lv_at hl 2 rfl) ?_
    refine lv_if_lt (tgt := 102) hx hb dX3_priceTails_28 (by decide) (fun c5 => ?_) (fun c5 => ?_)
    · replace hf := hf.1 c5
      exact hK102 σ _ _ _ hf hw (lv_sub hl [] rfl)
    · replace hf := hf.2 c5
      refine lv_aload_n hx hb dX3_priceTails_31 rfl (lv_at hl 0 rfl) ?_
      have hm_6 : (36, 0) ∈ L := hw.2.2.2.1 3 0 hm0 2 (by decide) (by decide) rfl
      refine x_get (v := .ref (lay 36 0)) (j := 2) C hw hm0 rfl (by decide) (by decide) rfl q141 dX3_priceTails_32 ?_
      refine lv_iload_n hx hb dX3_priceTails_35 rfl (lv_at hl 2 rfl) ?_
      refine lv_iconst (v := 1) hx hb dX3_priceTails_36 (by decide) ?_
      refine lv_iadd hx hb dX3_priceTails_37 ?_
      refine x_lald C hw hm_6 (by decide) rfl hf.1 dX3_priceTails_38 ?_
      replace hf := hf.2
      refine lv_lstore_n (lv' := [(3, .long (sB σ 36 0 ((v2 + (1 : Int32))).toNatClampNeg)), (0, .ref (lay 3 0)), (1, .int a1), (2, .int v2)]) hx hb dX3_priceTails_39 rfl hl (by decide) rfl (fun ls hl => ?_)
      refine lv_aload_n hx hb dX3_priceTails_40 rfl (lv_at hl 1 rfl) ?_
      have hm_7 : (37, 0) ∈ L := hw.2.2.2.1 3 0 hm0 3 (by decide) (by decide) rfl
      refine x_get (v := .ref (lay 37 0)) (j := 3) C hw hm0 rfl (by decide) (by decide) rfl q142 dX3_priceTails_41 ?_
      refine lv_iload_n hx hb dX3_priceTails_44 rfl (lv_at hl 3 rfl) ?_
      refine lv_iconst (v := 1) hx hb dX3_priceTails_45 (by decide) ?_
      refine lv_iadd hx hb dX3_priceTails_46 ?_
      refine x_lald C hw hm_7 (by decide) rfl hf.1 dX3_priceTails_47 ?_
      replace hf := hf.2
      refine lv_lstore (lv' := [(5, .long (sB σ 37 0 ((v2 + (1 : Int32))).toNatClampNeg)), (3, .long (sB σ 36 0 ((v2 + (1 : Int32))).toNatClampNeg)), (0, .ref (lay 3 0)), (1, .int a1), (2, .int v2)]) hx hb dX3_priceTails_48 hl (by decide) rfl (fun ls hl => ?_)
      refine lv_aload_n hx hb dX3_priceTails_50 rfl (lv_at hl 2 rfl) ?_
      have hm_8 : (36, 0) ∈ L := hw.2.2.2.1 3 0 hm0 2 (by decide) (by decide) rfl
      refine x_get (v := .ref (lay 36 0)) (j := 2) C hw hm0 rfl (by decide) (by decide) rfl q141 dX3_priceTails_51 ?_
      refine lv_iload_n hx hb dX3_priceTails_54 rfl (lv_at hl 4 rfl) ?_
      refine lv_aload_n hx hb dX3_priceTails_55 rfl (lv_at hl 2 rfl) ?_
      have hm_9 : (34, 0) ∈ L := hw.2.2.2.1 3 0 hm0 0 (by decide) (by decide) rfl
      refine x_get (v := .ref (lay 34 0)) (j := 0) C hw hm0 rfl (by decide) (by decide) rfl q139 dX3_priceTails_56 ?_
      refine lv_iload_n hx hb dX3_priceTails_59 rfl (lv_at hl 4 rfl) ?_
      refine x_iald C hw hm_9 (by decide) rfl hf.1 dX3_priceTails_60 ?_
      replace hf := hf.2
      refine lv_i2l hx hb dX3_priceTails_61 rfl ?_
      refine lv_lload_n hx hb dX3_priceTails_62 rfl (lv_at hl 1 rfl) ?_
      refine lv_lload hx hb dX3_priceTails_63 (lv_at hl 0 rfl) ?_
      refine lv_iload_n hx hb dX3_priceTails_65 rfl (lv_at hl 3 rfl) ?_
      refine lv_i2l hx hb dX3_priceTails_66 rfl ?_
      refine lv_ladd hx hb dX3_priceTails_67 ?_
      refine va_mmin_long hx hb (C.2.2.1.trans hl.1.symm) C.2.2.2.1 (C.2.2.2.2.1 _ q745) (C.2.2.2.2.1 _ q746) (C.2.2.2.2.1 _ q56) (C.2.2.2.2.1 _ q747) (Nat.le_of_ble_eq_true rfl) (Nat.le_of_ble_eq_true rfl) (Nat.zero_le _) (Nat.zero_le _) dX3_priceTails_68 ?_
      refine lv_ladd hx hb dX3_priceTails_71 ?_
      refine x_last C hw hm_8 (by decide) rfl hf.1 dX3_priceTails_72 (fun σ10 H locs eσ10 hw => ?_)
      replace hf := hf.2 σ10 eσ10
      refine lv_aload_n hx hb dX3_priceTails_73 rfl (lv_at hl 2 rfl) ?_
      have hm_11 : (37, 0) ∈ L := hw.2.2.2.1 3 0 hm0 3 (by decide) (by decide) rfl
      refine x_get (v := .ref (lay 37 0)) (j := 3) C hw hm0 rfl (by decide) (by decide) rfl q142 dX3_priceTails_74 ?_
      refine lv_iload_n hx hb dX3_priceTails_77 rfl (lv_at hl 4 rfl) ?_
      refine lv_aload_n hx hb dX3_priceTails_78 rfl (lv_at hl 2 rfl) ?_
      have hm_12 : (35, 0) ∈ L := hw.2.2.2.1 3 0 hm0 1 (by decide) (by decide) rfl
      refine x_get (v := .ref (lay 35 0)) (j := 1) C hw hm0 rfl (by decide) (by decide) rfl q140 dX3_priceTails_79 ?_
      refine lv_iload_n hx hb dX3_priceTails_82 rfl (lv_at hl 4 rfl) ?_
      refine x_iald C hw hm_12 (by decide) rfl hf.1 dX3_priceTails_83 ?_
      replace hf := hf.2
      refine lv_i2l hx hb dX3_priceTails_84 rfl ?_
      refine lv_lload hx hb dX3_priceTails_85 (lv_at hl 0 rfl) ?_
      refine lv_lload_n hx hb dX3_priceTails_87 rfl (lv_at hl 1 rfl) ?_
      refine lv_iload_n hx hb dX3_priceTails_88 rfl (lv_at hl 3 rfl) ?_
      refine lv_i2l hx hb dX3_priceTails_89 rfl ?_
      refine lv_ladd hx hb dX3_priceTails_90 ?_
      refine va_mmin_long hx hb (C.2.2.1.trans hl.1.symm) C.2.2.2.1 (C.2.2.2.2.1 _ q745) (C.2.2.2.2.1 _ q746) (C.2.2.2.2.1 _ q56) (C.2.2.2.2.1 _ q747) (Nat.le_of_ble_eq_true rfl) (Nat.le_of_ble_eq_true rfl) (Nat.zero_le _) (Nat.zero_le _) dX3_priceTails_91 ?_
      refine lv_ladd hx hb dX3_priceTails_94 ?_
      refine x_last C hw hm_11 (by decide) rfl hf.1 dX3_priceTails_95 (fun σ13 H locs eσ13 hw => ?_)
      replace hf := hf.2 σ13 eσ13
      refine lv_iinc (v := (v2 + (-1 : Int32))) (lv' := [(2, .int (v2 + (-1 : Int32))), (5, .long (sB σ 37 0 ((v2 + (1 : Int32))).toNatClampNeg)), (3, .long (sB σ 36 0 ((v2 + (1 : Int32))).toNatClampNeg)), (0, .ref (lay 3 0)), (1, .int a1)]) hx hb dX3_priceTails_96 hl (k := 4) rfl (by rfl) (by decide) rfl (fun ls hl => ?_)
      refine lv_goto (tgt := 27) hx hb dX3_priceTails_99 (by decide) ?_
      exact ih σ13 (v2 + (-1 : Int32)) _ _ _ hf hw (lv_sub hl [3, 4, 0] rfl)
def fX3_priceTails (N : Nat) (σ : St) (a1 : Int32) (Q : St → Prop) : Prop := (vp_in (sF σ 3 0 7) 101 ∧ ∀ σ2 : St, σ2 = setB σ 36 0 ((sF σ 3 0 7)).toNatClampNeg (0 : Int64) → (vp_in (sF σ2 3 0 7) 101 ∧ ∀ σ4 : St, σ4 = setB σ2 37 0 ((sF σ2 3 0 7)).toNatClampNeg (0 : Int64) → fX3_priceTails_l27 N a1 Q (fun (σ14 : St) => Q σ14) N σ4 ((sF σ4 3 0 7) - (1 : Int32))))
set_option maxHeartbeats 4000000 in
set_option maxRecDepth 100000 in
theorem eX3_priceTails {l : Launch} {E : EC} {lay : Nat → Nat → Nat} {L : List (Nat × Nat)} {A : Nat → Prop} {N : Nat} {σ : St} {a1 : Int32} {Q : St → Prop} (hf : fX3_priceTails N σ a1 Q) (hm0 : (3, 0) ∈ L) : Met l yX3_priceTails (.code yX3_priceTails cX3_priceTails 7 (none) :: big) rmX3_priceTails (va_Pc [.ref (lay 3 0), .int a1] (Bp E lay L A σ)) (va_Qv Q (Bd E lay L A) A) 0 0 A := by
  refine x_met (by decide +kernel) (Nat.le_of_ble_eq_true rfl) ?_
  intro p e s m args below meth c ls C hret hw hl
  have hx := C.1
  have hb := C.2.1
  have hl : lv_has ls 7 [(0, .ref (lay 3 0)), (1, .int a1)] := hl
  unfold fX3_priceTails at hf
  refine lv_aload_n hx hb dX3_priceTails_0 rfl (lv_at hl 0 rfl) ?_
  have hm_1 : (36, 0) ∈ L := hw.2.2.2.1 3 0 hm0 2 (by decide) (by decide) rfl
  refine x_get (v := .ref (lay 36 0)) (j := 2) C hw hm0 rfl (by decide) (by decide) rfl q141 dX3_priceTails_1 ?_
  refine lv_aload_n hx hb dX3_priceTails_4 rfl (lv_at hl 0 rfl) ?_
  refine x_get (v := .int (sF σ 3 0 7)) (j := 7) C hw hm0 rfl (by decide) (by decide) rfl q146 dX3_priceTails_5 ?_
  refine lv_lconst (v := 0) hx hb dX3_priceTails_8 (by decide) ?_
  refine x_last C hw hm_1 (by decide) rfl hf.1 dX3_priceTails_9 (fun σ2 H locs eσ2 hw => ?_)
  replace hf := hf.2 σ2 eσ2
  refine lv_aload_n hx hb dX3_priceTails_10 rfl (lv_at hl 0 rfl) ?_
  have hm_3 : (37, 0) ∈ L := hw.2.2.2.1 3 0 hm0 3 (by decide) (by decide) rfl
  refine x_get (v := .ref (lay 37 0)) (j := 3) C hw hm0 rfl (by decide) (by decide) rfl q142 dX3_priceTails_11 ?_
  refine lv_aload_n hx hb dX3_priceTails_14 rfl (lv_at hl 0 rfl) ?_
  refine x_get (v := .int (sF σ2 3 0 7)) (j := 7) C hw hm0 rfl (by decide) (by decide) rfl q146 dX3_priceTails_15 ?_
  refine lv_lconst (v := 0) hx hb dX3_priceTails_18 (by decide) ?_
  refine x_last C hw hm_3 (by decide) rfl hf.1 dX3_priceTails_19 (fun σ4 H locs eσ4 hw => ?_)
  replace hf := hf.2 σ4 eσ4
  refine lv_aload_n hx hb dX3_priceTails_20 rfl (lv_at hl 0 rfl) ?_
  refine x_get (v := .int (sF σ4 3 0 7)) (j := 7) C hw hm0 rfl (by decide) (by decide) rfl q146 dX3_priceTails_21 ?_
  refine lv_iconst (v := 1) hx hb dX3_priceTails_24 (by decide) ?_
  refine lv_isub hx hb dX3_priceTails_25 ?_
  refine lv_istore_n (lv' := [(2, .int ((sF σ4 3 0 7) - (1 : Int32))), (0, .ref (lay 3 0)), (1, .int a1)]) hx hb dX3_priceTails_26 rfl hl (by decide) rfl (fun ls hl => ?_)
  refine eX3_priceTails_l27 C hret hm0 ?_ N σ4 ((sF σ4 3 0 7) - (1 : Int32)) _ _ _ hf hw (lv_sub hl [1, 2, 0] rfl)
  · intro σ14 H locs ls hf hw hl
    exact x_vret C hret hw hf dX3_priceTails_102
