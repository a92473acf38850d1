-- X3_choose
abbrev rmX3_choose : Room := { frames := 0, cells := 0, slots := 0, locals := 0 }
def fX3_choose_b130_6 (N : Nat) (a1 : Int32) (a2 : Int32) (a3 : Int32) (Q : Int32 → St → Prop) (Kh : St → Int32 → Int32 → Prop) (Kx136 : St → Int32 → Prop) (σ : St) (v4 : Int32) (v5 : Int32) : Prop := Kh σ v4 (v5 + (1 : Int32))
def fX3_choose_b109_6 (N : Nat) (a1 : Int32) (a2 : Int32) (a3 : Int32) (Q : Int32 → St → Prop) (Kh : St → Int32 → Int32 → Prop) (Kx136 : St → Int32 → Prop) (σ : St) (v4 : Int32) (v5 : Int32) (v6 : Int32) (t0 : Int32) (t1 : Int32) (t2 : Nat) : Prop := (vp_in t1 100 ∧ ∀ σ12 : St, σ12 = setA σ 38 t2 (t1).toNatClampNeg t0 → ((v5 ≤ 0 → fX3_choose_b130_6 N a1 a2 a3 Q Kh Kx136 σ12 v4 v5) ∧ (¬ v5 ≤ 0 → (vp_in v5 100 ∧ (((sA σ12 38 0 (v5).toNatClampNeg) = v6 → fX3_choose_b130_6 N a1 a2 a3 Q Kh Kx136 σ12 v4 v5) ∧ (¬ (sA σ12 38 0 (v5).toNatClampNeg) = v6 → fX3_choose_b130_6 N a1 a2 a3 Q Kh Kx136 σ12 (v4 + (1 : Int32)) v5))))))
def fX3_choose_b86_6 (N : Nat) (a1 : Int32) (a2 : Int32) (a3 : Int32) (Q : Int32 → St → Prop) (Kh : St → Int32 → Int32 → Prop) (Kx136 : St → Int32 → Prop) (σ : St) (v4 : Int32) (v5 : Int32) (v6 : Int32) (v7 : Int64) (t0 : Int32) (t1 : Int64) : Prop := ((0 < (lg_cmp v7 (t1 + ((t0).toInt64))) → fX3_choose_b109_6 N a1 a2 a3 Q Kh Kx136 σ v4 v5 v6 a2 v5 0) ∧ (¬ 0 < (lg_cmp v7 (t1 + ((t0).toInt64))) → fX3_choose_b109_6 N a1 a2 a3 Q Kh Kx136 σ v4 v5 v6 a1 v5 0))
def fX3_choose_b64_6 (N : Nat) (a1 : Int32) (a2 : Int32) (a3 : Int32) (Q : Int32 → St → Prop) (Kh : St → Int32 → Int32 → Prop) (Kx136 : St → Int32 → Prop) (σ : St) (v4 : Int32) (v5 : Int32) (v6 : Int32) (t0 : Int32) (t1 : Int64) : Prop := (vp_in v5 101 ∧ ((¬ v6 = a1 → fX3_choose_b86_6 N a1 a2 a3 Q Kh Kx136 σ v4 v5 v6 (t1 + ((t0).toInt64)) (0 : Int32) (sB σ 37 0 (v5).toNatClampNeg)) ∧ (v6 = a1 → fX3_choose_b86_6 N a1 a2 a3 Q Kh Kx136 σ v4 v5 v6 (t1 + ((t0).toInt64)) a3 (sB σ 37 0 (v5).toNatClampNeg))))
def fX3_choose_b44_6 (N : Nat) (a1 : Int32) (a2 : Int32) (a3 : Int32) (Q : Int32 → St → Prop) (Kh : St → Int32 → Int32 → Prop) (Kx136 : St → Int32 → Prop) (σ : St) (v4 : Int32) (v5 : Int32) (t0 : Int32) : Prop := (vp_in v5 101 ∧ ((¬ t0 = a2 → fX3_choose_b64_6 N a1 a2 a3 Q Kh Kx136 σ v4 v5 t0 (0 : Int32) (sB σ 36 0 (v5).toNatClampNeg)) ∧ (t0 = a2 → fX3_choose_b64_6 N a1 a2 a3 Q Kh Kx136 σ v4 v5 t0 a3 (sB σ 36 0 (v5).toNatClampNeg))))
def fX3_choose_l6 (N : Nat) (a1 : Int32) (a2 : Int32) (a3 : Int32) (Q : Int32 → St → Prop) (Kx136 : St → Int32 → Prop) : Nat → St → Int32 → Int32 → Prop
  | 0, _, _, _ => False
  | n + 1, σ, v4, v5 => (((sF σ 3 0 7) ≤ v5 → Kx136 σ v4) ∧ (¬ (sF σ 3 0 7) ≤ v5 → (((100 : Int32) ≤ v5 → Kx136 σ v4) ∧ (¬ (100 : Int32) ≤ v5 → ((¬ v5 = 0 → (vp_in (v5 - (1 : Int32)) 100 ∧ fX3_choose_b44_6 N a1 a2 a3 Q (fun (σ : St) (w4 : Int32) (w5 : Int32) => fX3_choose_l6 N a1 a2 a3 Q Kx136 n σ w4 w5) Kx136 σ v4 v5 (sA σ 38 0 ((v5 - (1 : Int32))).toNatClampNeg))) ∧ (v5 = 0 → fX3_choose_b44_6 N a1 a2 a3 Q (fun (σ : St) (w4 : Int32) (w5 : Int32) => fX3_choose_l6 N a1 a2 a3 Q Kx136 n σ w4 w5) Kx136 σ v4 v5 (-9 : Int32)))))))
set_option maxHeartbeats 4000000 in
set_option maxRecDepth 100000 in
theorem eX3_choose_b130_6 {p : Program} {l : Launch} {e : Env} {s : State} {m : MethodId} {args : Array Value} {below : List Frame} {meth : Method} {c : Code} {E : EC} {lay : Nat → Nat → Nat} {L : List (Nat × Nat)} {A : Nat → Prop} (C : Cx p s m args c meth yX3_choose.cls cX3_choose 11 E A) (hret : meth.sig.returnType = some .int) {N : Nat} {a1 : Int32} {a2 : Int32} {a3 : Int32} {Q : Int32 → St → Prop} {Kh : St → Int32 → Int32 → Prop} {Kx136 : St → Int32 → Prop} (hm0 : (3, 0) ∈ L) (hKh : ∀ (σ : St) (w4 : Int32) (w5 : Int32) (H : Heap) (locs : List Loc) (ls : Array Slot), Kh σ w4 w5 → Wo E lay L A s σ H locs → lv_has ls 11 [(0, .ref (lay 3 0)), (1, .int a1), (2, .int a2), (3, .int a3), (4, .int w4), (5, .int w5)] → W p l e rmX3_choose s m args below meth c H locs 0 0 (MQ below (va_Qi Q (Bd E lay L A) A) args s 0 0 A) (F0 m 6 ls [])) (hK136 : ∀ (σ : St) (w4 : Int32) (H : Heap) (locs : List Loc) (ls : Array Slot), Kx136 σ w4 → Wo E lay L A s σ H locs → lv_has ls 11 [(4, .int w4)] → W p l e rmX3_choose s m args below meth c H locs 0 0 (MQ below (va_Qi Q (Bd E lay L A) A) args s 0 0 A) (F0 m 136 ls [])) (σ : St) (v4 : Int32) (v5 : Int32) (H : Heap) (locs : List Loc) (ls : Array Slot) (hf : fX3_choose_b130_6 N a1 a2 a3 Q Kh Kx136 σ v4 v5) (hw : Wo E lay L A s σ H locs) (hl : lv_has ls 11 [(0, .ref (lay 3 0)), (1, .int a1), (2, .int a2), (3, .int a3), (4, .int v4), (5, .int v5)]) : W p l e rmX3_choose s m args below meth c H locs 0 0 (MQ below (va_Qi Q (Bd E lay L A) A) args s 0 0 A) (F0 m 130 ls []) := by
  have hx := C.1
  have hb := C.2.1
  unfold fX3_choose_b130_6 at hf
  refine lv_iinc (v := (v5 + (1 : Int32))) (lv' := [(5, .int (v5 + (1 : Int32))), (0, .ref (lay 3 0)), (1, .int a1), (2, .int a2), (3, .int a3), (4, .int v4)]) hx hb dX3_choose_130 hl (k := 5) rfl (by rfl) (by decide) rfl (fun ls hl => ?_)
  refine lv_goto (tgt := 6) hx hb dX3_choose_133 (by decide) ?_
  exact hKh σ v4 (v5 + (1 : Int32)) _ _ _ hf hw (lv_sub hl [1, 2, 3, 4, 5, 0] rfl)
set_option maxHeartbeats 4000000 in
set_option maxRecDepth 100000 in
theorem eX3_choose_b109_6 {p : Program} {l : Launch} {e : Env} {s : State} {m : MethodId} {args : Array Value} {below : List Frame} {meth : Method} {c : Code} {E : EC} {lay : Nat → Nat → Nat} {L : List (Nat × Nat)} {A : Nat → Prop} (C : Cx p s m args c meth yX3_choose.cls cX3_choose 11 E A) (hret : meth.sig.returnType = some .int) {N : Nat} {a1 : Int32} {a2 : Int32} {a3 : Int32} {Q : Int32 → St → Prop} {Kh : St → Int32 → Int32 → Prop} {Kx136 : St → Int32 → Prop} (hm0 : (3, 0) ∈ L) (hKh : ∀ (σ : St) (w4 : Int32) (w5 : Int32) (H : Heap) (locs : List Loc) (ls : Array Slot), Kh σ w4 w5 → Wo E lay L A s σ H locs → lv_has ls 11 [(0, .ref (lay 3 0)), (1, .int a1), (2, .int a2), (3, .int a3), (4, .int w4), (5, .int w5)] → W p l e rmX3_choose s m args below meth c H locs 0 0 (MQ below (va_Qi Q (Bd E lay L A) A) args s 0 0 A) (F0 m 6 ls [])) (hK136 : ∀ (σ : St) (w4 : Int32) (H : Heap) (locs : List Loc) (ls : Array Slot), Kx136 σ w4 → Wo E lay L A s σ H locs → lv_has ls 11 [(4, .int w4)] → W p l e rmX3_choose s m args below meth c H locs 0 0 (MQ below (va_Qi Q (Bd E lay L A) A) args s 0 0 A) (F0 m 136 ls [])) (σ : St) (v4 : Int32) (v5 : Int32) (v6 : Int32) (t0 : Int32) (t1 : Int32) (t2 : Nat) (H : Heap) (locs : List Loc) (ls : Array Slot) (hf : fX3_choose_b109_6 N a1 a2 a3 Q Kh Kx136 σ v4 v5 v6 t0 t1 t2) (hw : Wo E lay L A s σ H locs) (hl : lv_has ls 11 [(0, .ref (lay 3 0)), (1, .int a1), (2, .int a2), (3, .int a3), (4, .int v4), (5, .int v5), (6, .int v6)]) (ht2 : (38, t2) ∈ L) : W p l e rmX3_choose s m args below meth c H locs 0 0 (MQ below (va_Qi Q (Bd E lay L A) A) args s 0 0 A) (F0 m 109 ls [.int t0, .int t1, .ref (lay 38 t2)]) := by
  have hx := C.1
  have hb := C.2.1
  unfold fX3_choose_b109_6 at hf
  refine x_iast C hw ht2 (by decide) rfl hf.1 dX3_choose_109 (fun σ12 H locs eσ12 hw => ?_)
  replace hf := hf.2 σ12 eσ12
  refine lv_iload hx hb dX3_choose_110 (lv_at hl 5 rfl) ?_
  refine lv_if_le (tgt := 130) hx hb dX3_choose_112 (by decide) (fun c13 => ?_) (fun c13 => ?_)
  · replace hf := hf.1 c13
    exact eX3_choose_b130_6 C hret hm0 hKh hK136 σ12 v4 v5 _ _ _ hf hw (lv_sub hl [0, 1, 2, 3, 4, 5] rfl)
  · replace hf := hf.2 c13
    refine lv_aload_n hx hb dX3_choose_115 rfl (lv_at hl 0 rfl) ?_
    have hm_14 : (38, 0) ∈ L := hw.2.2.2.1 3 0 hm0 4 (by decide) (by decide) rfl
    refine x_get (v := .ref (lay 38 0)) (j := 4) C hw hm0 rfl (by decide) (by decide) rfl q143 dX3_choose_116 ?_
    refine lv_iload hx hb dX3_choose_119 (lv_at hl 5 rfl) ?_
    refine x_iald C hw hm_14 (by decide) rfl hf.1 dX3_choose_121 ?_
    replace hf := hf.2
    refine lv_iload hx hb dX3_choose_122 (lv_at hl 6 rfl) ?_
    refine lv_icmp_eq (tgt := 130) hx hb dX3_choose_124 (by decide) (fun c15 => ?_) (fun c15 => ?_)
    · replace hf := hf.1 c15
      exact eX3_choose_b130_6 C hret hm0 hKh hK136 σ12 v4 v5 _ _ _ hf hw (lv_sub hl [0, 1, 2, 3, 4, 5] rfl)
    · replace hf := hf.2 c15
      refine lv_iinc (v := (v4 + (1 : Int32))) (lv' := [(4, .int (v4 + (1 : Int32))), (0, .ref (lay 3 0)), (1, .int a1), (2, .int a2), (3, .int a3), (5, .int v5), (6, .int v6)]) hx hb dX3_choose_127 hl (k := 4) rfl (by rfl) (by decide) rfl (fun ls hl => ?_)
      exact eX3_choose_b130_6 C hret hm0 hKh hK136 σ12 (v4 + (1 : Int32)) v5 _ _ _ hf hw (lv_sub hl [1, 2, 3, 4, 0, 5] rfl)
set_option maxHeartbeats 4000000 in
set_option maxRecDepth 100000 in
theorem eX3_choose_b86_6 {p : Program} {l : Launch} {e : Env} {s : State} {m : MethodId} {args : Array Value} {below : List Frame} {meth : Method} {c : Code} {E : EC} {lay : Nat → Nat → Nat} {L : List (Nat × Nat)} {A : Nat → Prop} (C : Cx p s m args c meth yX3_choose.cls cX3_choose 11 E A) (hret : meth.sig.returnType = some .int) {N : Nat} {a1 : Int32} {a2 : Int32} {a3 : Int32} {Q : Int32 → St → Prop} {Kh : St → Int32 → Int32 → Prop} {Kx136 : St → Int32 → Prop} (hm0 : (3, 0) ∈ L) (hKh : ∀ (σ : St) (w4 : Int32) (w5 : Int32) (H : Heap) (locs : List Loc) (ls : Array Slot), Kh σ w4 w5 → Wo E lay L A s σ H locs → lv_has ls 11 [(0, .ref (lay 3 0)), (1, .int a1), (2, .int a2), (3, .int a3), (4, .int w4), (5, .int w5)] → W p l e rmX3_choose s m args below meth c H locs 0 0 (MQ below (va_Qi Q (Bd E lay L A) A) args s 0 0 A) (F0 m 6 ls [])) (hK136 : ∀ (σ : St) (w4 : Int32) (H : Heap) (locs : List Loc) (ls : Array Slot), Kx136 σ w4 → Wo E lay L A s σ H locs → lv_has ls 11 [(4, .int w4)] → W p l e rmX3_choose s m args below meth c H locs 0 0 (MQ below (va_Qi Q (Bd E lay L A) A) args s 0 0 A) (F0 m 136 ls [])) (σ : St) (v4 : Int32) (v5 : Int32) (v6 : Int32) (v7 : Int64) (t0 : Int32) (t1 : Int64) (H : Heap) (locs : List Loc) (ls : Array Slot) (hf : fX3_choose_b86_6 N a1 a2 a3 Q Kh Kx136 σ v4 v5 v6 v7 t0 t1) (hw : Wo E lay L A s σ H locs) (hl : lv_has ls 11 [(0, .ref (lay 3 0)), (1, .int a1), (2, .int a2), (3, .int a3), (4, .int v4), (5, .int v5), (6, .int v6), (7, .long v7)]) : W p l e rmX3_choose s m args below meth c H locs 0 0 (MQ below (va_Qi Q (Bd E lay L A) A) args s 0 0 A) (F0 m 86 ls [.int t0, .long t1]) := by
  have hx := C.1
  have hb := C.2.1
  unfold fX3_choose_b86_6 at hf
  refine lv_i2l hx hb dX3_choose_86 rfl ?_
  refine lv_ladd hx hb dX3_choose_87 ?_
  refine lv_lstore (lv' := [(9, .long (t1 + ((t0).toInt64))), (0, .ref (lay 3 0)), (1, .int a1), (2, .int a2), (3, .int a3), (4, .int v4), (5, .int v5), (6, .int v6), (7, .long v7)]) hx hb dX3_choose_88 hl (by decide) rfl (fun ls hl => ?_)
  refine lv_aload_n hx hb dX3_choose_90 rfl (lv_at hl 1 rfl) ?_
  have hm_10 : (38, 0) ∈ L := hw.2.2.2.1 3 0 hm0 4 (by decide) (by decide) rfl
  refine x_get (v := .ref (lay 38 0)) (j := 4) C hw hm0 rfl (by decide) (by decide) rfl q143 dX3_choose_91 ?_
  refine lv_iload hx hb dX3_choose_94 (lv_at hl 6 rfl) ?_
  refine lv_lload hx hb dX3_choose_96 (lv_at hl 8 rfl) ?_
  refine lv_lload hx hb dX3_choose_98 (lv_at hl 0 rfl) ?_
  refine W.lcmp hx hb dX3_choose_100 ?_
  refine lv_if_gt (tgt := 108) hx hb dX3_choose_101 (by decide) (fun c11 => ?_) (fun c11 => ?_)
  · replace hf := hf.1 c11
    refine lv_iload_n hx hb dX3_choose_108 rfl (lv_at hl 3 rfl) ?_
    exact eX3_choose_b109_6 C hret hm0 hKh hK136 σ v4 v5 v6 a2 v5 0 _ _ _ hf hw (lv_sub hl [1, 2, 3, 4, 5, 6, 7] rfl) hm_10
  · replace hf := hf.2 c11
    refine lv_iload_n hx hb dX3_choose_104 rfl (lv_at hl 2 rfl) ?_
    refine lv_goto (tgt := 109) hx hb dX3_choose_105 (by decide) ?_
    exact eX3_choose_b109_6 C hret hm0 hKh hK136 σ v4 v5 v6 a1 v5 0 _ _ _ hf hw (lv_sub hl [1, 2, 3, 4, 5, 6, 7] rfl) hm_10
set_option maxHeartbeats 4000000 in
set_option maxRecDepth 100000 in
theorem eX3_choose_b64_6 {p : Program} {l : Launch} {e : Env} {s : State} {m : MethodId} {args : Array Value} {below : List Frame} {meth : Method} {c : Code} {E : EC} {lay : Nat → Nat → Nat} {L : List (Nat × Nat)} {A : Nat → Prop} (C : Cx p s m args c meth yX3_choose.cls cX3_choose 11 E A) (hret : meth.sig.returnType = some .int) {N : Nat} {a1 : Int32} {a2 : Int32} {a3 : Int32} {Q : Int32 → St → Prop} {Kh : St → Int32 → Int32 → Prop} {Kx136 : St → Int32 → Prop} (hm0 : (3, 0) ∈ L) (hKh : ∀ (σ : St) (w4 : Int32) (w5 : Int32) (H : Heap) (locs : List Loc) (ls : Array Slot), Kh σ w4 w5 → Wo E lay L A s σ H locs → lv_has ls 11 [(0, .ref (lay 3 0)), (1, .int a1), (2, .int a2), (3, .int a3), (4, .int w4), (5, .int w5)] → W p l e rmX3_choose s m args below meth c H locs 0 0 (MQ below (va_Qi Q (Bd E lay L A) A) args s 0 0 A) (F0 m 6 ls [])) (hK136 : ∀ (σ : St) (w4 : Int32) (H : Heap) (locs : List Loc) (ls : Array Slot), Kx136 σ w4 → Wo E lay L A s σ H locs → lv_has ls 11 [(4, .int w4)] → W p l e rmX3_choose s m args below meth c H locs 0 0 (MQ below (va_Qi Q (Bd E lay L A) A) args s 0 0 A) (F0 m 136 ls [])) (σ : St) (v4 : Int32) (v5 : Int32) (v6 : Int32) (t0 : Int32) (t1 : Int64) (H : Heap) (locs : List Loc) (ls : Array Slot) (hf : fX3_choose_b64_6 N a1 a2 a3 Q Kh Kx136 σ v4 v5 v6 t0 t1) (hw : Wo E lay L A s σ H locs) (hl : lv_has ls 11 [(0, .ref (lay 3 0)), (1, .int a1), (2, .int a2), (3, .int a3), (4, .int v4), (5, .int v5), (6, .int v6)]) : W p l e rmX3_choose s m args below meth c H locs 0 0 (MQ below (va_Qi Q (Bd E lay L A) A) args s 0 0 A) (F0 m 64 ls [.int t0, .long t1]) := by
  have hx := C.1
  have hb := C.2.1
  unfold fX3_choose_b64_6 at hf
  refine lv_i2l hx hb dX3_choose_64 rfl ?_
  refine lv_ladd hx hb dX3_choose_65 ?_
  refine lv_lstore (lv' := [(7, .long (t1 + ((t0).toInt64))), (0, .ref (lay 3 0)), (1, .int a1), (2, .int a2), (3, .int a3), (4, .int v4), (5, .int v5), (6, .int v6)]) hx hb dX3_choose_66 hl (by decide) rfl (fun ls hl => ?_)
  refine lv_aload_n hx hb dX3_choose_68 rfl (lv_at hl 1 rfl) ?_
  have hm_8 : (37, 0) ∈ L := hw.2.2.2.1 3 0 hm0 3 (by decide) (by decide) rfl
  refine x_get (v := .ref (lay 37 0)) (j := 3) C hw hm0 rfl (by decide) (by decide) rfl q142 dX3_choose_69 ?_
  refine lv_iload hx hb dX3_choose_72 (lv_at hl 6 rfl) ?_
  refine x_lald C hw hm_8 (by decide) rfl hf.1 dX3_choose_74 ?_
  replace hf := hf.2
  refine lv_iload hx hb dX3_choose_75 (lv_at hl 7 rfl) ?_
  refine lv_iload_n hx hb dX3_choose_77 rfl (lv_at hl 2 rfl) ?_
  refine lv_icmp_ne (tgt := 85) hx hb dX3_choose_78 (by decide) (fun c9 => ?_) (fun c9 => ?_)
  · replace hf := hf.1 c9
    refine lv_iconst (v := 0) hx hb dX3_choose_85 (by decide) ?_
    exact eX3_choose_b86_6 C hret hm0 hKh hK136 σ v4 v5 v6 (t1 + ((t0).toInt64)) (0 : Int32) (sB σ 37 0 (v5).toNatClampNeg) _ _ _ hf hw (lv_sub hl [1, 2, 3, 4, 5, 6, 7, 0] rfl)
  · replace hf := hf.2 c9
    refine lv_iload_n hx hb dX3_choose_81 rfl (lv_at hl 4 rfl) ?_
    refine lv_goto (tgt := 86) hx hb dX3_choose_82 (by decide) ?_
    exact eX3_choose_b86_6 C hret hm0 hKh hK136 σ v4 v5 v6 (t1 + ((t0).toInt64)) a3 (sB σ 37 0 (v5).toNatClampNeg) _ _ _ hf hw (lv_sub hl [1, 2, 3, 4, 5, 6, 7, 0] rfl)
set_option maxHeartbeats 4000000 in
set_option maxRecDepth 100000 in
theorem eX3_choose_b44_6 {p : Program} {l : Launch} {e : Env} {s : State} {m : MethodId} {args : Array Value} {below : List Frame} {meth : Method} {c : Code} {E : EC} {lay : Nat → Nat → Nat} {L : List (Nat × Nat)} {A : Nat → Prop} (C : Cx p s m args c meth yX3_choose.cls cX3_choose 11 E A) (hret : meth.sig.returnType = some .int) {N : Nat} {a1 : Int32} {a2 : Int32} {a3 : Int32} {Q : Int32 → St → Prop} {Kh : St → Int32 → Int32 → Prop} {Kx136 : St → Int32 → Prop} (hm0 : (3, 0) ∈ L) (hKh : ∀ (σ : St) (w4 : Int32) (w5 : Int32) (H : Heap) (locs : List Loc) (ls : Array Slot), Kh σ w4 w5 → Wo E lay L A s σ H locs → lv_has ls 11 [(0, .ref (lay 3 0)), (1, .int a1), (2, .int a2), (3, .int a3), (4, .int w4), (5, .int w5)] → W p l e rmX3_choose s m args below meth c H locs 0 0 (MQ below (va_Qi Q (Bd E lay L A) A) args s 0 0 A) (F0 m 6 ls [])) (hK136 : ∀ (σ : St) (w4 : Int32) (H : Heap) (locs : List Loc) (ls : Array Slot), Kx136 σ w4 → Wo E lay L A s σ H locs → lv_has ls 11 [(4, .int w4)] → W p l e rmX3_choose s m args below meth c H locs 0 0 (MQ below (va_Qi Q (Bd E lay L A) A) args s 0 0 A) (F0 m 136 ls [])) (σ : St) (v4 : Int32) (v5 : Int32) (t0 : Int32) (H : Heap) (locs : List Loc) (ls : Array Slot) (hf : fX3_choose_b44_6 N a1 a2 a3 Q Kh Kx136 σ v4 v5 t0) (hw : Wo E lay L A s σ H locs) (hl : lv_has ls 11 [(0, .ref (lay 3 0)), (1, .int a1), (2, .int a2), (3, .int a3), (4, .int v4), (5, .int v5)]) : W p l e rmX3_choose s m args below meth c H locs 0 0 (MQ below (va_Qi Q (Bd E lay L A) A) args s 0 0 A) (F0 m 44 ls [.int t0]) := by
  have hx := C.1
  have hb := C.2.1
  unfold fX3_choose_b44_6 at hf
  refine lv_istore (lv' := [(6, .int t0), (0, .ref (lay 3 0)), (1, .int a1), (2, .int a2), (3, .int a3), (4, .int v4), (5, .int v5)]) hx hb dX3_choose_44 hl (by decide) rfl (fun ls hl => ?_)
  refine lv_aload_n hx hb dX3_choose_46 rfl (lv_at hl 1 rfl) ?_
  have hm_6 : (36, 0) ∈ L := hw.2.2.2.1 3 0 hm0 2 (by decide) (by decide) rfl
  refine x_get (v := .ref (lay 36 0)) (j := 2) C hw hm0 rfl (by decide) (by decide) rfl q141 dX3_choose_47 ?_
  refine lv_iload hx hb dX3_choose_50 (lv_at hl 6 rfl) ?_
  refine x_lald C hw hm_6 (by decide) rfl hf.1 dX3_choose_52 ?_
  replace hf := hf.2
  refine lv_iload hx hb dX3_choose_53 (lv_at hl 0 rfl) ?_
  refine lv_iload_n hx hb dX3_choose_55 rfl (lv_at hl 3 rfl) ?_
  refine lv_icmp_ne (tgt := 63) hx hb dX3_choose_56 (by decide) (fun c7 => ?_) (fun c7 => ?_)
  · replace hf := hf.1 c7
    refine lv_iconst (v := 0) hx hb dX3_choose_63 (by decide) ?_
    exact eX3_choose_b64_6 C hret hm0 hKh hK136 σ v4 v5 t0 (0 : Int32) (sB σ 36 0 (v5).toNatClampNeg) _ _ _ hf hw (lv_sub hl [1, 2, 3, 4, 5, 6, 0] rfl)
  · replace hf := hf.2 c7
    refine lv_iload_n hx hb dX3_choose_59 rfl (lv_at hl 4 rfl) ?_
    refine lv_goto (tgt := 64) hx hb dX3_choose_60 (by decide) ?_
    exact eX3_choose_b64_6 C hret hm0 hKh hK136 σ v4 v5 t0 a3 (sB σ 36 0 (v5).toNatClampNeg) _ _ _ hf hw (lv_sub hl [1, 2, 3, 4, 5, 6, 0] rfl)
set_option maxHeartbeats 4000000 in
set_option maxRecDepth 100000 in
theorem eX3_choose_l6 {p : Program} {l : Launch} {e : Env} {s : State} {m : MethodId} {args : Array Value} {below : List Frame} {meth : Method} {c : Code} {E : EC} {lay : Nat → Nat → Nat} {L : List (Nat × Nat)} {A : Nat → Prop} (C : Cx p s m args c meth yX3_choose.cls cX3_choose 11 E A) (hret : meth.sig.returnType = some .int) {N : Nat} {a1 : Int32} {a2 : Int32} {a3 : Int32} {Q : Int32 → St → Prop} {Kx136 : St → Int32 → Prop} (hm0 : (3, 0) ∈ L) (hK136 : ∀ (σ : St) (w4 : Int32) (H : Heap) (locs : List Loc) (ls : Array Slot), Kx136 σ w4 → Wo E lay L A s σ H locs → lv_has ls 11 [(4, .int w4)] → W p l e rmX3_choose s m args below meth c H locs 0 0 (MQ below (va_Qi Q (Bd E lay L A) A) args s 0 0 A) (F0 m 136 ls [])) : ∀ (n : Nat) (σ : St) (v4 : Int32) (v5 : Int32) (H : Heap) (locs : List Loc) (ls : Array Slot), fX3_choose_l6 N a1 a2 a3 Q Kx136 n σ v4 v5 → Wo E lay L A s σ H locs → lv_has ls 11 [(0, .ref (lay 3 0)), (1, .int a1), (2, .int a2), (3, .int a3), (4, .int v4), (5, .int v5)] → W p l e rmX3_choose s m args below meth c H locs 0 0 (MQ below (va_Qi Q (Bd E lay L A) A) args s 0 0 A) (F0 m 6 ls []) := by
  have hx := C.1
  have hb := C.2.1
  intro n
  induction n with
  | zero => intro σ v4 v5 H locs ls hf; exact hf.elim
  | succ n ih =>
    intro σ v4 v5 H locs ls hf hw hl
    rw [fX3_choose_l6] at hf
    refine lv_iload hx hb dX3_choose_6 (lv_at hl 5 rfl) ?_
    refine lv_aload_n hx hb dX3_choose_8 rfl (lv_at hl 0 rfl) ?_
    refine x_get (v := .int (sF σ 3 0 7)) (j := 7) C hw hm0 rfl (by decide) (by decide) rfl q146 dX3_choose_9 ?_
    refine lv_icmp_ge (tgt := 136) hx hb dX3_choose_12 (by decide) (fun c1 => ?_) (fun c1 => ?_)
    · replace hf := hf.1 c1
      exact hK136 σ v4 _ _ _ hf hw (lv_sub hl [4] rfl)
    · replace hf := hf.2 c1
      refine lv_iload hx hb dX3_choose_15 (lv_at hl 5 rfl) ?_
      refine lv_aload_n hx hb dX3_choose_17 rfl (lv_at hl 0 rfl) ?_
      have hm_2 : (38, 0) ∈ L := hw.2.2.2.1 3 0 hm0 4 (by decide) (by decide) rfl
      refine x_get (v := .ref (lay 38 0)) (j := 4) C hw hm0 rfl (by decide) (by decide) rfl q143 dX3_choose_18 ?_
      refine x_alen (v := 100) C hw hm_2 (by decide) (by decide) (by decide) dX3_choose_21 ?_
      refine lv_icmp_ge (tgt := 136) hx hb dX3_choose_22 (by decide) (fun c3 => ?_) (fun c3 => ?_)
      · replace hf := hf.1 c3
        exact hK136 σ v4 _ _ _ hf hw (lv_sub hl [4] rfl)
      · replace hf := hf.2 c3
        refine lv_iload hx hb dX3_choose_25 (lv_at hl 5 rfl) ?_
        refine lv_if_ne (tgt := 35) hx hb dX3_choose_27 (by decide) (fun c4 => ?_) (fun c4 => ?_)
        · replace hf := hf.1 c4
          refine lv_aload_n hx hb dX3_choose_35 rfl (lv_at hl 0 rfl) ?_
          have hm_5 : (38, 0) ∈ L := hw.2.2.2.1 3 0 hm0 4 (by decide) (by decide) rfl
          refine x_get (v := .ref (lay 38 0)) (j := 4) C hw hm0 rfl (by decide) (by decide) rfl q143 dX3_choose_36 ?_
          refine lv_iload hx hb dX3_choose_39 (lv_at hl 5 rfl) ?_
          refine lv_iconst (v := 1) hx hb dX3_choose_41 (by decide) ?_
          refine lv_isub hx hb dX3_choose_42 ?_
          refine x_iald C hw hm_5 (by decide) rfl hf.1 dX3_choose_43 ?_
          replace hf := hf.2
          exact eX3_choose_b44_6 C hret hm0 ih hK136 σ v4 v5 (sA σ 38 0 ((v5 - (1 : Int32))).toNatClampNeg) _ _ _ hf hw (lv_sub hl [0, 1, 2, 3, 4, 5] rfl)
        · replace hf := hf.2 c4
          refine lv_bipush (v := (-9)) hx hb dX3_choose_30 (by decide) ?_
          refine lv_goto (tgt := 44) hx hb dX3_choose_32 (by decide) ?_
          exact eX3_choose_b44_6 C hret hm0 ih hK136 σ v4 v5 (-9 : Int32) _ _ _ hf hw (lv_sub hl [0, 1, 2, 3, 4, 5] rfl)
def fX3_choose (N : Nat) (σ : St) (a1 : Int32) (a2 : Int32) (a3 : Int32) (Q : Int32 → St → Prop) : Prop := fX3_choose_l6 N a1 a2 a3 Q (fun (σ16 : St) (u136_4 : Int32) => Q u136_4 σ16) N σ (0 : Int32) (0 : Int32)
set_option maxHeartbeats 4000000 in
set_option maxRecDepth 100000 in
theorem eX3_choose {l : Launch} {E : EC} {lay : Nat → Nat → Nat} {L : List (Nat × Nat)} {A : Nat → Prop} {N : Nat} {σ : St} {a1 : Int32} {a2 : Int32} {a3 : Int32} {Q : Int32 → St → Prop} (hf : fX3_choose N σ a1 a2 a3 Q) (hm0 : (3, 0) ∈ L) : Met l yX3_choose (.code yX3_choose cX3_choose 11 (some .int) :: big) rmX3_choose (va_Pc [.ref (lay 3 0), .int a1, .int a2, .int a3] (Bp E lay L A σ)) (va_Qi Q (Bd E lay L A) A) 0 0 A := by
  refine x_met (by decide +kernel) (Nat.le_of_ble_eq_true rfl) ?_
  intro p e s m args below meth c ls C hret hw hl
  have hx := C.1
  have hb := C.2.1
  have hl : lv_has ls 11 [(0, .ref (lay 3 0)), (1, .int a1), (2, .int a2), (3, .int a3)] := hl
  unfold fX3_choose at hf
  refine lv_iconst (v := 0) hx hb dX3_choose_0 (by decide) ?_
  refine lv_istore (lv' := [(4, .int (0 : Int32)), (0, .ref (lay 3 0)), (1, .int a1), (2, .int a2), (3, .int a3)]) hx hb dX3_choose_1 hl (by decide) rfl (fun ls hl => ?_)
  refine lv_iconst (v := 0) hx hb dX3_choose_3 (by decide) ?_
  refine lv_istore (lv' := [(5, .int (0 : Int32)), (4, .int (0 : Int32)), (0, .ref (lay 3 0)), (1, .int a1), (2, .int a2), (3, .int a3)]) hx hb dX3_choose_4 hl (by decide) rfl (fun ls hl => ?_)
  refine eX3_choose_l6 C hret hm0 ?_ N σ (0 : Int32) (0 : Int32) _ _ _ hf hw (lv_sub hl [2, 3, 4, 5, 1, 0] rfl)
  · intro σ16 u136_4 H locs ls hf hw hl
    refine lv_iload hx hb dX3_choose_136 (lv_at hl 0 rfl) ?_
    exact x_iret C hret hw hf dX3_choose_138
-- X3_leastPrice
abbrev rmX3_leastPrice : Room := { frames := 1, cells := 0, slots := 0, locals := 23 }
def fX3_leastPrice (N : Nat) (σ : St) (Q : Int64 → St → Prop) : Prop := (vp_in (0 : Int32) 101 ∧ (vp_in (0 : Int32) 101 ∧ Q (if (sB σ 37 0 ((0 : Int32)).toNatClampNeg) < (sB σ 36 0 ((0 : Int32)).toNatClampNeg) then (sB σ 37 0 ((0 : Int32)).toNatClampNeg) else (sB σ 36 0 ((0 : Int32)).toNatClampNeg)) σ))
set_option maxHeartbeats 4000000 in
set_option maxRecDepth 100000 in
theorem eX3_leastPrice {l : Launch} {E : EC} {lay : Nat → Nat → Nat} {L : List (Nat × Nat)} {A : Nat → Prop} {N : Nat} {σ : St} {Q : Int64 → St → Prop} (hf : fX3_leastPrice N σ Q) (hm0 : (3, 0) ∈ L) : Met l yX3_leastPrice (.code yX3_leastPrice cX3_leastPrice 1 (some .long) :: big) rmX3_leastPrice (va_Pc [.ref (lay 3 0)] (Bp E lay L A σ)) (va_Ql Q (Bd E lay L A) A) 0 0 A := by
  refine x_met (by decide +kernel) (Nat.le_of_ble_eq_true rfl) ?_
  intro p e s m args below meth c ls C hret hw hl
  have hx := C.1
  have hb := C.2.1
  have hl : lv_has ls 1 [(0, .ref (lay 3 0))] := hl
  unfold fX3_leastPrice at hf
  refine lv_aload_n hx hb dX3_leastPrice_0 rfl (lv_at hl 0 rfl) ?_
  have hm_1 : (36, 0) ∈ L := hw.2.2.2.1 3 0 hm0 2 (by decide) (by decide) rfl
  refine x_get (v := .ref (lay 36 0)) (j := 2) C hw hm0 rfl (by decide) (by decide) rfl q141 dX3_leastPrice_1 ?_
  refine lv_iconst (v := 0) hx hb dX3_leastPrice_4 (by decide) ?_
  refine x_lald C hw hm_1 (by decide) rfl hf.1 dX3_leastPrice_5 ?_
  replace hf := hf.2
  refine lv_aload_n hx hb dX3_leastPrice_6 rfl (lv_at hl 0 rfl) ?_
  have hm_2 : (37, 0) ∈ L := hw.2.2.2.1 3 0 hm0 3 (by decide) (by decide) rfl
  refine x_get (v := .ref (lay 37 0)) (j := 3) C hw hm0 rfl (by decide) (by decide) rfl q142 dX3_leastPrice_7 ?_
  refine lv_iconst (v := 0) hx hb dX3_leastPrice_10 (by decide) ?_
  refine x_lald C hw hm_2 (by decide) rfl hf.1 dX3_leastPrice_11 ?_
  replace hf := hf.2
  refine va_mmin_long hx hb (C.2.2.1.trans hl.1.symm) C.2.2.2.1 (C.2.2.2.2.1 _ q745) (C.2.2.2.2.1 _ q746) (C.2.2.2.2.1 _ q56) (C.2.2.2.2.1 _ q747) (Nat.le_of_ble_eq_true rfl) (Nat.le_of_ble_eq_true rfl) (Nat.zero_le _) (Nat.zero_le _) dX3_leastPrice_12 ?_
  exact x_lret C hret hw hf dX3_leastPrice_15
-- X3_ownerOf
abbrev rmX3_ownerOf : Room := { frames := 0, cells := 0, slots := 0, locals := 0 }
def fX3_ownerOf (N : Nat) (σ : St) (a1 : Int32) (Q : Int32 → St → Prop) : Prop := ((a1 < 0 → Q (-9 : Int32) σ) ∧ (¬ a1 < 0 → (((sF σ 3 0 7) ≤ a1 → Q (-9 : Int32) σ) ∧ (¬ (sF σ 3 0 7) ≤ a1 → (((100 : Int32) ≤ a1 → Q (-9 : Int32) σ) ∧ (¬ (100 : Int32) ≤ a1 → (vp_in a1 100 ∧ Q (sA σ 38 0 (a1).toNatClampNeg) σ)))))))
set_option maxHeartbeats 4000000 in
set_option maxRecDepth 100000 in
theorem eX3_ownerOf {l : Launch} {E : EC} {lay : Nat → Nat → Nat} {L : List (Nat × Nat)} {A : Nat → Prop} {N : Nat} {σ : St} {a1 : Int32} {Q : Int32 → St → Prop} (hf : fX3_ownerOf N σ a1 Q) (hm0 : (3, 0) ∈ L) : Met l yX3_ownerOf (.code yX3_ownerOf cX3_ownerOf 2 (some .int) :: big) rmX3_ownerOf (va_Pc [.ref (lay 3 0), .int a1] (Bp E lay L A σ)) (va_Qi Q (Bd E lay L A) A) 0 0 A := by
  refine x_met (by decide +kernel) (Nat.le_of_ble_eq_true rfl) ?_
  intro p e s m args below meth c ls C hret hw hl
  have hx := C.1
  have hb := C.2.1
  have hl : lv_has ls 2 [(0, .ref (lay 3 0)), (1, .int a1)] := hl
  unfold fX3_ownerOf at hf
  refine lv_iload_n hx hb dX3_ownerOf_0 rfl (lv_at hl 1 rfl) ?_
  refine lv_if_lt (tgt := 30) hx hb dX3_ownerOf_1 (by decide) (fun c1 => ?_) (fun c1 => ?_)
  · replace hf := hf.1 c1
    refine lv_bipush (v := (-9)) hx hb dX3_ownerOf_30 (by decide) ?_
    exact x_iret C hret hw hf dX3_ownerOf_32
  · replace hf := hf.2 c1
    refine lv_iload_n hx hb dX3_ownerOf_4 rfl (lv_at hl 1 rfl) ?_
    refine lv_aload_n hx hb dX3_ownerOf_5 rfl (lv_at hl 0 rfl) ?_
    refine x_get (v := .int (sF σ 3 0 7)) (j := 7) C hw hm0 rfl (by decide) (by decide) rfl q146 dX3_ownerOf_6 ?_
    refine lv_icmp_ge (tgt := 30) hx hb dX3_ownerOf_9 (by decide) (fun c2 => ?_) (fun c2 => ?_)
    · replace hf := hf.1 c2
      refine lv_bipush (v := (-9)) hx hb dX3_ownerOf_30 (by decide) ?_
      exact x_iret C hret hw hf dX3_ownerOf_32
    · replace hf := hf.2 c2
      refine lv_iload_n hx hb dX3_ownerOf_12 rfl (lv_at hl 1 rfl) ?_
      refine lv_aload_n hx hb dX3_ownerOf_13 rfl (lv_at hl 0 rfl) ?_
      have hm_3 : (38, 0) ∈ L := hw.2.2.2.1 3 0 hm0 4 (by decide) (by decide) rfl
      refine x_get (v := .ref (lay 38 0)) (j := 4) C hw hm0 rfl (by decide) (by decide) rfl q143 dX3_ownerOf_14 ?_
      refine x_alen (v := 100) C hw hm_3 (by decide) (by decide) (by decide) dX3_ownerOf_17 ?_
      refine lv_icmp_ge (tgt := 30) hx hb dX3_ownerOf_18 (by decide) (fun c4 => ?_) (fun c4 => ?_)
      · replace hf := hf.1 c4
        refine lv_bipush (v := (-9)) hx hb dX3_ownerOf_30 (by decide) ?_
        exact x_iret C hret hw hf dX3_ownerOf_32
      · replace hf := hf.2 c4
        refine lv_aload_n hx hb dX3_ownerOf_21 rfl (lv_at hl 0 rfl) ?_
        have hm_5 : (38, 0) ∈ L := hw.2.2.2.1 3 0 hm0 4 (by decide) (by decide) rfl
        refine x_get (v := .ref (lay 38 0)) (j := 4) C hw hm0 rfl (by decide) (by decide) rfl q143 dX3_ownerOf_22 ?_
        refine lv_iload_n hx hb dX3_ownerOf_25 rfl (lv_at hl 1 rfl) ?_
        refine x_iald C hw hm_5 (by decide) rfl hf.1 dX3_ownerOf_26 ?_
        replace hf := hf.2
        refine lv_goto (tgt := 32) hx hb dX3_ownerOf_27 (by decide) ?_
        exact x_iret C hret hw hf dX3_ownerOf_32
-- X5_signAt
abbrev rmX5_signAt : Room := { frames := 0, cells := 0, slots := 0, locals := 0 }
def fX5_signAt (N : Nat) (σ : St) (a0 : Nat) (a1 : Int32) (Q : Int32 → St → Prop) : Prop := ((a1 < 0 → Q (32 : Int32) σ) ∧ (¬ a1 < 0 → (((sF σ 5 a0 1) ≤ a1 → Q (32 : Int32) σ) ∧ (¬ (sF σ 5 a0 1) ≤ a1 → (((200 : Int32) ≤ a1 → Q (32 : Int32) σ) ∧ (¬ (200 : Int32) ≤ a1 → (vp_in a1 200 ∧ Q (sA σ 24 a0 (a1).toNatClampNeg) σ)))))))
set_option maxHeartbeats 4000000 in
set_option maxRecDepth 100000 in
theorem eX5_signAt {l : Launch} {E : EC} {lay : Nat → Nat → Nat} {L : List (Nat × Nat)} {A : Nat → Prop} {N : Nat} {σ : St} {a0 : Nat} {a1 : Int32} {Q : Int32 → St → Prop} (hf : fX5_signAt N σ a0 a1 Q) (hm0 : (5, a0) ∈ L) : Met l yX5_signAt (.code yX5_signAt cX5_signAt 2 (some .int) :: big) rmX5_signAt (va_Pc [.ref (lay 5 a0), .int a1] (Bp E lay L A σ)) (va_Qi Q (Bd E lay L A) A) 0 0 A := by
  refine x_met (by decide +kernel) (Nat.le_of_ble_eq_true rfl) ?_
  intro p e s m args below meth c ls C hret hw hl
  have hx := C.1
  have hb := C.2.1
  have hl : lv_has ls 2 [(0, .ref (lay 5 a0)), (1, .int a1)] := hl
  unfold fX5_signAt at hf
  refine lv_iload_n hx hb dX5_signAt_0 rfl (lv_at hl 1 rfl) ?_
  refine lv_if_lt (tgt := 30) hx hb dX5_signAt_1 (by decide) (fun c1 => ?_) (fun c1 => ?_)
  · replace hf := hf.1 c1
    refine lv_bipush (v := 32) hx hb dX5_signAt_30 (by decide) ?_
    exact x_iret C hret hw hf dX5_signAt_32
  · replace hf := hf.2 c1
    refine lv_iload_n hx hb dX5_signAt_4 rfl (lv_at hl 1 rfl) ?_
    refine lv_aload_n hx hb dX5_signAt_5 rfl (lv_at hl 0 rfl) ?_
    refine x_get (v := .int (sF σ 5 a0 1)) (j := 1) C hw hm0 rfl (by decide) (by decide) rfl q282 dX5_signAt_6 ?_
    refine lv_icmp_ge (tgt := 30) hx hb dX5_signAt_9 (by decide) (fun c2 => ?_) (fun c2 => ?_)
    · replace hf := hf.1 c2
      refine lv_bipush (v := 32) hx hb dX5_signAt_30 (by decide) ?_
      exact x_iret C hret hw hf dX5_signAt_32
    · replace hf := hf.2 c2
      refine lv_iload_n hx hb dX5_signAt_12 rfl (lv_at hl 1 rfl) ?_
      refine lv_aload_n hx hb dX5_signAt_13 rfl (lv_at hl 0 rfl) ?_
      have hm_3 : (24, a0) ∈ L := hw.2.2.2.1 5 a0 hm0 0 (by decide) (by decide) rfl
      refine x_get (v := .ref (lay 24 a0)) (j := 0) C hw hm0 rfl (by decide) (by decide) rfl q281 dX5_signAt_14 ?_
      refine x_alen (v := 200) C hw hm_3 (by decide) (by decide) (by decide) dX5_signAt_17 ?_
      refine lv_icmp_ge (tgt := 30) hx hb dX5_signAt_18 (by decide) (fun c4 => ?_) (fun c4 => ?_)
      · replace hf := hf.1 c4
        refine lv_bipush (v := 32) hx hb dX5_signAt_30 (by decide) ?_
        exact x_iret C hret hw hf dX5_signAt_32
      · replace hf := hf.2 c4
        refine lv_aload_n hx hb dX5_signAt_21 rfl (lv_at hl 0 rfl) ?_
        have hm_5 : (24, a0) ∈ L := hw.2.2.2.1 5 a0 hm0 0 (by decide) (by decide) rfl
        refine x_get (v := .ref (lay 24 a0)) (j := 0) C hw hm0 rfl (by decide) (by decide) rfl q281 dX5_signAt_22 ?_
        refine lv_iload_n hx hb dX5_signAt_25 rfl (lv_at hl 1 rfl) ?_
        refine x_bald C hw hm_5 (by decide) rfl hf.1 dX5_signAt_26 ?_
        replace hf := hf.2
        refine lv_goto (tgt := 32) hx hb dX5_signAt_27 (by decide) ?_
        exact x_iret C hret hw hf dX5_signAt_32
-- X10_smallSign
abbrev rmX10_smallSign : Room := { frames := 0, cells := 0, slots := 0, locals := 0 }
def fX10_smallSign (N : Nat) (σ : St) (a0 : Int32) (Q : Int32 → St → Prop) : Prop := ((a0 < (65 : Int32) → Q a0 σ) ∧ (¬ a0 < (65 : Int32) → (((90 : Int32) < a0 → Q a0 σ) ∧ (¬ (90 : Int32) < a0 → Q ((a0 - (65 : Int32)) + (97 : Int32)) σ))))
set_option maxHeartbeats 4000000 in
set_option maxRecDepth 100000 in
theorem eX10_smallSign {l : Launch} {E : EC} {lay : Nat → Nat → Nat} {L : List (Nat × Nat)} {A : Nat → Prop} {N : Nat} {σ : St} {a0 : Int32} {Q : Int32 → St → Prop} (hf : fX10_smallSign N σ a0 Q) : Met l yX10_smallSign (.code yX10_smallSign cX10_smallSign 1 (some .int) :: big) rmX10_smallSign (va_Pc [.int a0] (Bp E lay L A σ)) (va_Qi Q (Bd E lay L A) A) 0 0 A := by
  refine x_met (by decide +kernel) (Nat.le_of_ble_eq_true rfl) ?_
  intro p e s m args below meth c ls C hret hw hl
  have hx := C.1
  have hb := C.2.1
  have hl : lv_has ls 1 [(0, .int a0)] := hl
  unfold fX10_smallSign at hf
  refine lv_iload_n hx hb dX10_smallSign_0 rfl (lv_at hl 0 rfl) ?_
  refine lv_bipush (v := 65) hx hb dX10_smallSign_1 (by decide) ?_
  refine lv_icmp_lt (tgt := 22) hx hb dX10_smallSign_3 (by decide) (fun c1 => ?_) (fun c1 => ?_)
  · replace hf := hf.1 c1
    refine lv_iload_n hx hb dX10_smallSign_22 rfl (lv_at hl 0 rfl) ?_
    exact x_iret C hret hw hf dX10_smallSign_23
  · replace hf := hf.2 c1
    refine lv_iload_n hx hb dX10_smallSign_6 rfl (lv_at hl 0 rfl) ?_
    refine lv_bipush (v := 90) hx hb dX10_smallSign_7 (by decide) ?_
    refine lv_icmp_gt (tgt := 22) hx hb dX10_smallSign_9 (by decide) (fun c2 => ?_) (fun c2 => ?_)
    · replace hf := hf.1 c2
      refine lv_iload_n hx hb dX10_smallSign_22 rfl (lv_at hl 0 rfl) ?_
      exact x_iret C hret hw hf dX10_smallSign_23
    · replace hf := hf.2 c2
      refine lv_iload_n hx hb dX10_smallSign_12 rfl (lv_at hl 0 rfl) ?_
      refine lv_bipush (v := 65) hx hb dX10_smallSign_13 (by decide) ?_
      refine lv_isub hx hb dX10_smallSign_15 ?_
      refine lv_bipush (v := 97) hx hb dX10_smallSign_16 (by decide) ?_
      refine lv_iadd hx hb dX10_smallSign_18 ?_
      refine lv_goto (tgt := 23) hx hb dX10_smallSign_19 (by decide) ?_
      exact x_iret C hret hw hf dX10_smallSign_23
-- X4_cutQuotes
abbrev rmX4_cutQuotes : Room := { frames := 1, cells := 0, slots := 0, locals := 21 }
def fX4_cutQuotes_b113_9 (N : Nat) (a0 : Nat) (a1 : Nat) (Q : St → Prop) (Kh : St → Int32 → Int32 → Prop) (Kx120 : St → Prop) (σ : St) (v3 : Int32) (t0 : Int32) : Prop := Kh σ t0 (v3 + (1 : Int32))
def fX4_cutQuotes_b108_9 (N : Nat) (a0 : Nat) (a1 : Nat) (Q : St → Prop) (Kh : St → Int32 → Int32 → Prop) (Kx120 : St → Prop) (σ : St) (v3 : Int32) : Prop := fX4_cutQuotes_b113_9 N a0 a1 Q Kh Kx120 σ v3 (1 : Int32)
def fX4_cutQuotes_b112_9 (N : Nat) (a0 : Nat) (a1 : Nat) (Q : St → Prop) (Kh : St → Int32 → Int32 → Prop) (Kx120 : St → Prop) (σ : St) (v3 : Int32) : Prop := fX4_cutQuotes_b113_9 N a0 a1 Q Kh Kx120 σ v3 (0 : Int32)
def fX4_cutQuotes_b92_9 (N : Nat) (a0 : Nat) (a1 : Nat) (Q : St → Prop) (Kh : St → Int32 → Int32 → Prop) (Kx120 : St → Prop) (σ : St) (v2 : Int32) (v3 : Int32) (v4 : Int32) (v5 : Int32) : Prop := ((¬ v5 = 0 → fX4_cutQuotes_b108_9 N a0 a1 Q Kh Kx120 σ v3) ∧ (v5 = 0 → ((v2 = 0 → fX4_cutQuotes_b112_9 N a0 a1 Q Kh Kx120 σ v3) ∧ (¬ v2 = 0 → ((v4 = (93 : Int32) → fX4_cutQuotes_b112_9 N a0 a1 Q Kh Kx120 σ v3) ∧ (¬ v4 = (93 : Int32) → fX4_cutQuotes_b108_9 N a0 a1 Q Kh Kx120 σ v3))))))
def fX4_cutQuotes_b75_9 (N : Nat) (a0 : Nat) (a1 : Nat) (Q : St → Prop) (Kh : St → Int32 → Int32 → Prop) (Kx120 : St → Prop) (σ : St) (v2 : Int32) (v3 : Int32) (v4 : Int32) (v5 : Int32) (t0 : Int32) (t1 : Int32) (t2 : Nat) : Prop := (vp_in t1 200 ∧ ∀ σ10 : St, σ10 = setA σ 25 t2 (t1).toNatClampNeg (vp_nar .byte ((t0).toInt8.toInt32)) → ((v5 = 0 → fX4_cutQuotes_b92_9 N a0 a1 Q Kh Kx120 σ10 v2 v3 v4 v5) ∧ (¬ v5 = 0 → ∀ σ15 : St, σ15 = setF σ10 4 a0 7 ((sF σ10 4 a0 7) + (1 : Int32)) → fX4_cutQuotes_b92_9 N a0 a1 Q Kh Kx120 σ15 v2 v3 v4 v5)))
def fX4_cutQuotes_b65_9 (N : Nat) (a0 : Nat) (a1 : Nat) (Q : St → Prop) (Kh : St → Int32 → Int32 → Prop) (Kx120 : St → Prop) (σ : St) (v2 : Int32) (v3 : Int32) (v4 : Int32) (v5 : Int32) (t0 : Int32) (t1 : Nat) : Prop := fX4_cutQuotes_b75_9 N a0 a1 Q Kh Kx120 σ v2 v3 v4 v5 (32 : Int32) t0 t1
def fX4_cutQuotes_b49_9 (N : Nat) (a0 : Nat) (a1 : Nat) (Q : St → Prop) (Kh : St → Int32 → Int32 → Prop) (Kx120 : St → Prop) (σ : St) (v2 : Int32) (v3 : Int32) (v4 : Int32) (t0 : Int32) : Prop := ((¬ v2 = 0 → fX4_cutQuotes_b65_9 N a0 a1 Q Kh Kx120 σ v2 v3 v4 t0 v3 a0) ∧ (v2 = 0 → ((t0 = 0 → fX10_smallSign N σ v4 (fun (r18 : Int32) (σ17 : St) => fX4_cutQuotes_b75_9 N a0 a1 Q Kh Kx120 σ17 v2 v3 v4 t0 r18 v3 a0)) ∧ (¬ t0 = 0 → fX4_cutQuotes_b65_9 N a0 a1 Q Kh Kx120 σ v2 v3 v4 t0 v3 a0))))
def fX4_cutQuotes_b48_9 (N : Nat) (a0 : Nat) (a1 : Nat) (Q : St → Prop) (Kh : St → Int32 → Int32 → Prop) (Kx120 : St → Prop) (σ : St) (v2 : Int32) (v3 : Int32) (v4 : Int32) : Prop := fX4_cutQuotes_b49_9 N a0 a1 Q Kh Kx120 σ v2 v3 v4 (0 : Int32)
def fX4_cutQuotes_l9 (N : Nat) (a0 : Nat) (a1 : Nat) (Q : St → Prop) (Kx120 : St → Prop) : Nat → St → Int32 → Int32 → Prop
  | 0, _, _, _ => False
  | n + 1, σ, v2, v3 => (((sF σ 4 a0 3) ≤ v3 → Kx120 σ) ∧ (¬ (sF σ 4 a0 3) ≤ v3 → (((200 : Int32) ≤ v3 → Kx120 σ) ∧ (¬ (200 : Int32) ≤ v3 → fX5_signAt N σ a1 v3 (fun (r6 : Int32) (σ5 : St) => ((¬ v2 = 0 → fX4_cutQuotes_b48_9 N a0 a1 Q (fun (σ : St) (w2 : Int32) (w3 : Int32) => fX4_cutQuotes_l9 N a0 a1 Q Kx120 n σ w2 w3) Kx120 σ5 v2 v3 r6) ∧ (v2 = 0 → ((¬ r6 = (91 : Int32) → fX4_cutQuotes_b48_9 N a0 a1 Q (fun (σ : St) (w2 : Int32) (w3 : Int32) => fX4_cutQuotes_l9 N a0 a1 Q Kx120 n σ w2 w3) Kx120 σ5 v2 v3 r6) ∧ (r6 = (91 : Int32) → fX4_cutQuotes_b49_9 N a0 a1 Q (fun (σ : St) (w2 : Int32) (w3 : Int32) => fX4_cutQuotes_l9 N a0 a1 Q Kx120 n σ w2 w3) Kx120 σ5 v2 v3 r6 (1 : Int32))))))))))
set_option maxHeartbeats 4000000 in
set_option maxRecDepth 100000 in
theorem eX4_cutQuotes_b113_9 {p : Program} {l : Launch} {e : Env} {s : State} {m : MethodId} {args : Array Value} {below : List Frame} {meth : Method} {c : Code} {E : EC} {lay : Nat → Nat → Nat} {L : List (Nat × Nat)} {A : Nat → Prop} (C : Cx p s m args c meth yX4_cutQuotes.cls cX4_cutQuotes 6 E A) (hret : meth.sig.returnType = none) {N : Nat} {a0 : Nat} {a1 : Nat} {Q : St → Prop} {Kh : St → Int32 → Int32 → Prop} {Kx120 : St → Prop} (hm0 : (4, a0) ∈ L) (hm1 : (5, a1) ∈ L) (hKh : ∀ (σ : St) (w2 : Int32) (w3 : Int32) (H : Heap) (locs : List Loc) (ls : Array Slot), Kh σ w2 w3 → Wo E lay L A s σ H locs → lv_has ls 6 [(0, .ref (lay 4 a0)), (1, .ref (lay 5 a1)), (2, .int w2), (3, .int w3)] → W p l e rmX4_cutQuotes s m args below meth c H locs 0 0 (MQ below (va_Qv Q (Bd E lay L A) A) args s 0 0 A) (F0 m 9 ls [])) (hK120 : ∀ (σ : St) (H : Heap) (locs : List Loc) (ls : Array Slot), Kx120 σ → Wo E lay L A s σ H locs → lv_has ls 6 [] → W p l e rmX4_cutQuotes s m args below meth c H locs 0 0 (MQ below (va_Qv Q (Bd E lay L A) A) args s 0 0 A) (F0 m 120 ls [])) (σ : St) (v3 : Int32) (t0 : Int32) (H : Heap) (locs : List Loc) (ls : Array Slot) (hf : fX4_cutQuotes_b113_9 N a0 a1 Q Kh Kx120 σ v3 t0) (hw : Wo E lay L A s σ H locs) (hl : lv_has ls 6 [(0, .ref (lay 4 a0)), (1, .ref (lay 5 a1)), (3, .int v3)]) : W p l e rmX4_cutQuotes s m args below meth c H locs 0 0 (MQ below (va_Qv Q (Bd E lay L A) A) args s 0 0 A) (F0 m 113 ls [.int t0]) := by
  have hx := C.1
  have hb := C.2.1
  unfold fX4_cutQuotes_b113_9 at hf
  refine lv_istore_n (lv' := [(2, .int t0), (0, .ref (lay 4 a0)), (1, .ref (lay 5 a1)), (3, .int v3)]) hx hb dX4_cutQuotes_113 rfl hl (by decide) rfl (fun ls hl => ?_)
  refine lv_iinc (v := (v3 + (1 : Int32))) (lv' := [(3, .int (v3 + (1 : Int32))), (2, .int t0), (0, .ref (lay 4 a0)), (1, .ref (lay 5 a1))]) hx hb dX4_cutQuotes_114 hl (k := 3) rfl (by rfl) (by decide) rfl (fun ls hl => ?_)
  refine lv_goto (tgt := 9) hx hb dX4_cutQuotes_117 (by decide) ?_
  exact hKh σ t0 (v3 + (1 : Int32)) _ _ _ hf hw (lv_sub hl [2, 3, 1, 0] rfl)
set_option maxHeartbeats 4000000 in
set_option maxRecDepth 100000 in
theorem eX4_cutQuotes_b108_9 {p : Program} {l : Launch} {e : Env} {s : State} {m : MethodId} {args : Array Value} {below : List Frame} {meth : Method} {c : Code} {E : EC} {lay : Nat → Nat → Nat} {L : List (Nat × Nat)} {A : Nat → Prop} (C : Cx p s m args c meth yX4_cutQuotes.cls cX4_cutQuotes 6 E A) (hret : meth.sig.returnType = none) {N : Nat} {a0 : Nat} {a1 : Nat} {Q : St → Prop} {Kh : St → Int32 → Int32 → Prop} {Kx120 : St → Prop} (hm0 : (4, a0) ∈ L) (hm1 : (5, a1) ∈ L) (hKh : ∀ (σ : St) (w2 : Int32) (w3 : Int32) (H : Heap) (locs : List Loc) (ls : Array Slot), Kh σ w2 w3 → Wo E lay L A s σ H locs → lv_has ls 6 [(0, .ref (lay 4 a0)), (1, .ref (lay 5 a1)), (2, .int w2), (3, .int w3)] → W p l e rmX4_cutQuotes s m args below meth c H locs 0 0 (MQ below (va_Qv Q (Bd E lay L A) A) args s 0 0 A) (F0 m 9 ls [])) (hK120 : ∀ (σ : St) (H : Heap) (locs : List Loc) (ls : Array Slot), Kx120 σ → Wo E lay L A s σ H locs → lv_has ls 6 [] → W p l e rmX4_cutQuotes s m args below meth c H locs 0 0 (MQ below (va_Qv Q (Bd E lay L A) A) args s 0 0 A) (F0 m 120 ls [])) (σ : St) (v3 : Int32) (H : Heap) (locs : List Loc) (ls : Array Slot) (hf : fX4_cutQuotes_b108_9 N a0 a1 Q Kh Kx120 σ v3) (hw : Wo E lay L A s σ H locs) (hl : lv_has ls 6 [(0, .ref (lay 4 a0)), (1, .ref (lay 5 a1)), (3, .int v3)]) : W p l e rmX4_cutQuotes s m args below meth c H locs 0 0 (MQ below (va_Qv Q (Bd E lay L A) A) args s 0 0 A) (F0 m 108 ls []) := by
  have hx := C.1
  have hb := C.2.1
  unfold fX4_cutQuotes_b108_9 at hf
  refine lv_iconst (v := 1) hx hb dX4_cutQuotes_108 (by decide) ?_
  refine lv_goto (tgt := 113) hx hb dX4_cutQuotes_109 (by decide) ?_
  exact eX4_cutQuotes_b113_9 C hret hm0 hm1 hKh hK120 σ v3 (1 : Int32) _ _ _ hf hw (lv_sub hl [0, 1, 2] rfl)
set_option maxHeartbeats 4000000 in
set_option maxRecDepth 100000 in
theorem eX4_cutQuotes_b112_9 {p : Program} {l : Launch} {e : Env} {s : State} {m : MethodId} {args : Array Value} {below : List Frame} {meth : Method} {c : Code} {E : EC} {lay : Nat → Nat → Nat} {L : List (Nat × Nat)} {A : Nat → Prop} (C : Cx p s m args c meth yX4_cutQuotes.cls cX4_cutQuotes 6 E A) (hret : meth.sig.returnType = none) {N : Nat} {a0 : Nat} {a1 : Nat} {Q : St → Prop} {Kh : St → Int32 → Int32 → Prop} {Kx120 : St → Prop} (hm0 : (4, a0) ∈ L) (hm1 : (5, a1) ∈ L) (hKh : ∀ (σ : St) (w2 : Int32) (w3 : Int32) (H : Heap) (locs : List Loc) (ls : Array Slot), Kh σ w2 w3 → Wo E lay L A s σ H locs → lv_has ls 6 [(0, .ref (lay 4 a0)), (1, .ref (lay 5 a1)), (2, .int w2), (3, .int w3)] → W p l e rmX4_cutQuotes s m args below meth c H locs 0 0 (MQ below (va_Qv Q (Bd E lay L A) A) args s 0 0 A) (F0 m 9 ls [])) (hK120 : ∀ (σ : St) (H : Heap) (locs : List Loc) (ls : Array Slot), Kx120 σ → Wo E lay L A s σ H locs → lv_has ls 6 [] → W p l e rmX4_cutQuotes s m args below meth c H locs 0 0 (MQ below (va_Qv Q (Bd E lay L A) A) args s 0 0 A) (F0 m 120 ls [])) (σ : St) (v3 : Int32) (H : Heap) (locs : List Loc) (ls : Array Slot) (hf : fX4_cutQuotes_b112_9 N a0 a1 Q Kh Kx120 σ v3) (hw : Wo E lay L A s σ H locs) (hl : lv_has ls 6 [(0, .ref (lay 4 a0)), (1, .ref (lay 5 a1)), (3, .int v3)]) : W p l e rmX4_cutQuotes s m args below meth c H locs 0 0 (MQ below (va_Qv Q (Bd E lay L A) A) args s 0 0 A) (F0 m 112 ls []) := by
  have hx := C.1
  have hb := C.2.1
  unfold fX4_cutQuotes_b112_9 at hf
  refine lv_iconst (v := 0) hx hb dX4_cutQuotes_112 (by decide) ?_
  exact eX4_cutQuotes_b113_9 C hret hm0 hm1 hKh hK120 σ v3 (0 : Int32) _ _ _ hf hw (lv_sub hl [0, 1, 2] rfl)
set_option maxHeartbeats 4000000 in
set_option maxRecDepth 100000 in
theorem eX4_cutQuotes_b92_9 {p : Program} {l : Launch} {e : Env} {s : State} {m : MethodId} {args : Array Value} {below : List Frame} {meth : Method} {c : Code} {E : EC} {lay : Nat → Nat → Nat} {L : List (Nat × Nat)} {A : Nat → Prop} (C : Cx p s m args c meth yX4_cutQuotes.cls cX4_cutQuotes 6 E A) (hret : meth.sig.returnType = none) {N : Nat} {a0 : Nat} {a1 : Nat} {Q : St → Prop} {Kh : St → Int32 → Int32 → Prop} {Kx120 : St → Prop} (hm0 : (4, a0) ∈ L) (hm1 : (5, a1) ∈ L) (hKh : ∀ (σ : St) (w2 : Int32) (w3 : Int32) (H : Heap) (locs : List Loc) (ls : Array Slot), Kh σ w2 w3 → Wo E lay L A s σ H locs → lv_has ls 6 [(0, .ref (lay 4 a0)), (1, .ref (lay 5 a1)), (2, .int w2), (3, .int w3)] → W p l e rmX4_cutQuotes s m args below meth c H locs 0 0 (MQ below (va_Qv Q (Bd E lay L A) A) args s 0 0 A) (F0 m 9 ls [])) (hK120 : ∀ (σ : St) (H : Heap) (locs : List Loc) (ls : Array Slot), Kx120 σ → Wo E lay L A s σ H locs → lv_has ls 6 [] → W p l e rmX4_cutQuotes s m args below meth c H locs 0 0 (MQ below (va_Qv Q (Bd E lay L A) A) args s 0 0 A) (F0 m 120 ls [])) (σ : St) (v2 : Int32) (v3 : Int32) (v4 : Int32) (v5 : Int32) (H : Heap) (locs : List Loc) (ls : Array Slot) (hf : fX4_cutQuotes_b92_9 N a0 a1 Q Kh Kx120 σ v2 v3 v4 v5) (hw : Wo E lay L A s σ H locs) (hl : lv_has ls 6 [(0, .ref (lay 4 a0)), (1, .ref (lay 5 a1)), (2, .int v2), (3, .int v3), (4, .int v4), (5, .int v5)]) : W p l e rmX4_cutQuotes s m args below meth c H locs 0 0 (MQ below (va_Qv Q (Bd E lay L A) A) args s 0 0 A) (F0 m 92 ls []) := by
  have hx := C.1
  have hb := C.2.1
  unfold fX4_cutQuotes_b92_9 at hf
  refine lv_iload hx hb dX4_cutQuotes_92 (lv_at hl 5 rfl) ?_
  refine lv_if_ne (tgt := 108) hx hb dX4_cutQuotes_94 (by decide) (fun c12 => ?_) (fun c12 => ?_)
  · replace hf := hf.1 c12
    exact eX4_cutQuotes_b108_9 C hret hm0 hm1 hKh hK120 σ v3 _ _ _ hf hw (lv_sub hl [0, 1, 3] rfl)
  · replace hf := hf.2 c12
    refine lv_iload_n hx hb dX4_cutQuotes_97 rfl (lv_at hl 2 rfl) ?_
    refine lv_if_eq (tgt := 112) hx hb dX4_cutQuotes_98 (by decide) (fun c13 => ?_) (fun c13 => ?_)
    · replace hf := hf.1 c13
      exact eX4_cutQuotes_b112_9 C hret hm0 hm1 hKh hK120 σ v3 _ _ _ hf hw (lv_sub hl [0, 1, 3] rfl)
    · replace hf := hf.2 c13
      refine lv_iload hx hb dX4_cutQuotes_101 (lv_at hl 4 rfl) ?_
      refine lv_bipush (v := 93) hx hb dX4_cutQuotes_103 (by decide) ?_
      refine lv_icmp_eq (tgt := 112) hx hb dX4_cutQuotes_105 (by decide) (fun c14 => ?_) (fun c14 => ?_)
      · replace hf := hf.1 c14
        exact eX4_cutQuotes_b112_9 C hret hm0 hm1 hKh hK120 σ v3 _ _ _ hf hw (lv_sub hl [0, 1, 3] rfl)
      · replace hf := hf.2 c14
        exact eX4_cutQuotes_b108_9 C hret hm0 hm1 hKh hK120 σ v3 _ _ _ hf hw (lv_sub hl [0, 1, 3] rfl)
set_option maxHeartbeats 4000000 in
set_option maxRecDepth 100000 in
theorem eX4_cutQuotes_b75_9 {p : Program} {l : Launch} {e : Env} {s : State} {m : MethodId} {args : Array Value} {below : List Frame} {meth : Method} {c : Code} {E : EC} {lay : Nat → Nat → Nat} {L : List (Nat × Nat)} {A : Nat → Prop} (C : Cx p s m args c meth yX4_cutQuotes.cls cX4_cutQuotes 6 E A) (hret : meth.sig.returnType = none) {N : Nat} {a0 : Nat} {a1 : Nat} {Q : St → Prop} {Kh : St → Int32 → Int32 → Prop} {Kx120 : St → Prop} (hm0 : (4, a0) ∈ L) (hm1 : (5, a1) ∈ L) (hKh : ∀ (σ : St) (w2 : Int32) (w3 : Int32) (H : Heap) (locs : List Loc) (ls : Array Slot), Kh σ w2 w3 → Wo E lay L A s σ H locs → lv_has ls 6 [(0, .ref (lay 4 a0)), (1, .ref (lay 5 a1)), (2, .int w2), (3, .int w3)] → W p l e rmX4_cutQuotes s m args below meth c H locs 0 0 (MQ below (va_Qv Q (Bd E lay L A) A) args s 0 0 A) (F0 m 9 ls [])) (hK120 : ∀ (σ : St) (H : Heap) (locs : List Loc) (ls : Array Slot), Kx120 σ → Wo E lay L A s σ H locs → lv_has ls 6 [] → W p l e rmX4_cutQuotes s m args below meth c H locs 0 0 (MQ below (va_Qv Q (Bd E lay L A) A) args s 0 0 A) (F0 m 120 ls [])) (σ : St) (v2 : Int32) (v3 : Int32) (v4 : Int32) (v5 : Int32) (t0 : Int32) (t1 : Int32) (t2 : Nat) (H : Heap) (locs : List Loc) (ls : Array Slot) (hf : fX4_cutQuotes_b75_9 N a0 a1 Q Kh Kx120 σ v2 v3 v4 v5 t0 t1 t2) (hw : Wo E lay L A s σ H locs) (hl : lv_has ls 6 [(0, .ref (lay 4 a0)), (1, .ref (lay 5 a1)), (2, .int v2), (3, .int v3), (4, .int v4), (5, .int v5)]) (ht2 : (25, t2) ∈ L) : W p l e rmX4_cutQuotes s m args below meth c H locs 0 0 (MQ below (va_Qv Q (Bd E lay L A) A) args s 0 0 A) (F0 m 75 ls [.int t0, .int t1, .ref (lay 25 t2)]) := by
  have hx := C.1
  have hb := C.2.1
  unfold fX4_cutQuotes_b75_9 at hf
  refine lv_i2b hx hb dX4_cutQuotes_75 rfl ?_
  refine x_bast C hw ht2 (by decide) rfl hf.1 dX4_cutQuotes_76 (fun σ10 H locs eσ10 hw => ?_)
  replace hf := hf.2 σ10 eσ10
  refine lv_iload hx hb dX4_cutQuotes_77 (lv_at hl 5 rfl) ?_
  refine lv_if_eq (tgt := 92) hx hb dX4_cutQuotes_79 (by decide) (fun c11 => ?_) (fun c11 => ?_)
  · replace hf := hf.1 c11
    exact eX4_cutQuotes_b92_9 C hret hm0 hm1 hKh hK120 σ10 v2 v3 v4 v5 _ _ _ hf hw (lv_sub hl [0, 1, 2, 3, 4, 5] rfl)
  · replace hf := hf.2 c11
    refine lv_aload_n hx hb dX4_cutQuotes_82 rfl (lv_at hl 0 rfl) ?_
    refine lv_dup hx hb dX4_cutQuotes_83 rfl ?_
    refine x_get (v := .int (sF σ10 4 a0 7)) (j := 7) C hw hm0 rfl (by decide) (by decide) rfl q256 dX4_cutQuotes_84 ?_
    refine lv_iconst (v := 1) hx hb dX4_cutQuotes_87 (by decide) ?_
    refine lv_iadd hx hb dX4_cutQuotes_88 ?_
    refine x_putI (j := 7) (ty := .int) C hw hm0 rfl (by decide) (by decide) rfl rfl (by decide +kernel) rfl rfl q256 dX4_cutQuotes_89 (fun σ15 H locs eσ15 hw => ?_)
    replace hf := hf σ15 eσ15
    exact eX4_cutQuotes_b92_9 C hret hm0 hm1 hKh hK120 σ15 v2 v3 v4 v5 _ _ _ hf hw (lv_sub hl [0, 1, 2, 3, 4, 5] rfl)
set_option maxHeartbeats 4000000 in
set_option maxRecDepth 100000 in
theorem eX4_cutQuotes_b65_9 {p : Program} {l : Launch} {e : Env} {s : State} {m : MethodId} {args : Array Value} {below : List Frame} {meth : Method} {c : Code} {E : EC} {lay : Nat → Nat → Nat} {L : List (Nat × Nat)} {A : Nat → Prop} (C : Cx p s m args c meth yX4_cutQuotes.cls cX4_cutQuotes 6 E A) (hret : meth.sig.returnType = none) {N : Nat} {a0 : Nat} {a1 : Nat} {Q : St → Prop} {Kh : St → Int32 → Int32 → Prop} {Kx120 : St → Prop} (hm0 : (4, a0) ∈ L) (hm1 : (5, a1) ∈ L) (hKh : ∀ (σ : St) (w2 : Int32) (w3 : Int32) (H : Heap) (locs : List Loc) (ls : Array Slot), Kh σ w2 w3 → Wo E lay L A s σ H locs → lv_has ls 6 [(0, .ref (lay 4 a0)), (1, .ref (lay 5 a1)), (2, .int w2), (3, .int w3)] → W p l e rmX4_cutQuotes s m args below meth c H locs 0 0 (MQ below (va_Qv Q (Bd E lay L A) A) args s 0 0 A) (F0 m 9 ls [])) (hK120 : ∀ (σ : St) (H : Heap) (locs : List Loc) (ls : Array Slot), Kx120 σ → Wo E lay L A s σ H locs → lv_has ls 6 [] → W p l e rmX4_cutQuotes s m args below meth c H locs 0 0 (MQ below (va_Qv Q (Bd E lay L A) A) args s 0 0 A) (F0 m 120 ls [])) (σ : St) (v2 : Int32) (v3 : Int32) (v4 : Int32) (v5 : Int32) (t0 : Int32) (t1 : Nat) (H : Heap) (locs : List Loc) (ls : Array Slot) (hf : fX4_cutQuotes_b65_9 N a0 a1 Q Kh Kx120 σ v2 v3 v4 v5 t0 t1) (hw : Wo E lay L A s σ H locs) (hl : lv_has ls 6 [(0, .ref (lay 4 a0)), (1, .ref (lay 5 a1)), (2, .int v2), (3, .int v3), (4, .int v4), (5, .int v5)]) (ht1 : (25, t1) ∈ L) : W p l e rmX4_cutQuotes s m args below meth c H locs 0 0 (MQ below (va_Qv Q (Bd E lay L A) A) args s 0 0 A) (F0 m 65 ls [.int t0, .ref (lay 25 t1)]) := by
  have hx := C.1
  have hb := C.2.1
  unfold fX4_cutQuotes_b65_9 at hf
  refine lv_bipush (v := 32) hx hb dX4_cutQuotes_65 (by decide) ?_
  refine lv_goto (tgt := 75) hx hb dX4_cutQuotes_67 (by decide) ?_
  exact eX4_cutQuotes_b75_9 C hret hm0 hm1 hKh hK120 σ v2 v3 v4 v5 (32 : Int32) t0 t1 _ _ _ hf hw (lv_sub hl [0, 1, 2, 3, 4, 5] rfl) ht1
set_option maxHeartbeats 4000000 in
set_option maxRecDepth 100000 in
theorem eX4_cutQuotes_b49_9 {p : Program} {l : Launch} {e : Env} {s : State} {m : MethodId} {args : Array Value} {below : List Frame} {meth : Method} {c : Code} {E : EC} {lay : Nat → Nat → Nat} {L : List (Nat × Nat)} {A : Nat → Prop} (C : Cx p s m args c meth yX4_cutQuotes.cls cX4_cutQuotes 6 E A) (hret : meth.sig.returnType = none) {N : Nat} {a0 : Nat} {a1 : Nat} {Q : St → Prop} {Kh : St → Int32 → Int32 → Prop} {Kx120 : St → Prop} (hm0 : (4, a0) ∈ L) (hm1 : (5, a1) ∈ L) (hKh : ∀ (σ : St) (w2 : Int32) (w3 : Int32) (H : Heap) (locs : List Loc) (ls : Array Slot), Kh σ w2 w3 → Wo E lay L A s σ H locs → lv_has ls 6 [(0, .ref (lay 4 a0)), (1, .ref (lay 5 a1)), (2, .int w2), (3, .int w3)] → W p l e rmX4_cutQuotes s m args below meth c H locs 0 0 (MQ below (va_Qv Q (Bd E lay L A) A) args s 0 0 A) (F0 m 9 ls [])) (hK120 : ∀ (σ : St) (H : Heap) (locs : List Loc) (ls : Array Slot), Kx120 σ → Wo E lay L A s σ H locs → lv_has ls 6 [] → W p l e rmX4_cutQuotes s m args below meth c H locs 0 0 (MQ below (va_Qv Q (Bd E lay L A) A) args s 0 0 A) (F0 m 120 ls [])) (σ : St) (v2 : Int32) (v3 : Int32) (v4 : Int32) (t0 : Int32) (H : Heap) (locs : List Loc) (ls : Array Slot) (hf : fX4_cutQuotes_b49_9 N a0 a1 Q Kh Kx120 σ v2 v3 v4 t0) (hw : Wo E lay L A s σ H locs) (hl : lv_has ls 6 [(0, .ref (lay 4 a0)), (1, .ref (lay 5 a1)), (2, .int v2), (3, .int v3), (4, .int v4)]) : W p l e rmX4_cutQuotes s m args below meth c H locs 0 0 (MQ below (va_Qv Q (Bd E lay L A) A) args s 0 0 A) (F0 m 49 ls [.int t0]) := by
  have hx := C.1
  have hb := C.2.1
  unfold fX4_cutQuotes_b49_9 at hf
  refine lv_istore (lv' := [(5, .int t0), (0, .ref (lay 4 a0)), (1, .ref (lay 5 a1)), (2, .int v2), (3, .int v3), (4, .int v4)]) hx hb dX4_cutQuotes_49 hl (by decide) rfl (fun ls hl => ?_)
  refine lv_aload_n hx hb dX4_cutQuotes_51 rfl (lv_at hl 1 rfl) ?_
  have hm_8 : (25, a0) ∈ L := hw.2.2.2.1 4 a0 hm0 0 (by decide) (by decide) rfl
  refine x_get (v := .ref (lay 25 a0)) (j := 0) C hw hm0 rfl (by decide) (by decide) rfl q241 dX4_cutQuotes_52 ?_
  refine lv_iload_n hx hb dX4_cutQuotes_55 rfl (lv_at hl 4 rfl) ?_
  refine lv_iload_n hx hb dX4_cutQuotes_56 rfl (lv_at hl 3 rfl) ?_
  refine lv_if_ne (tgt := 65) hx hb dX4_cutQuotes_57 (by decide) (fun c9 => ?_) (fun c9 => ?_)
  · replace hf := hf.1 c9
    exact eX4_cutQuotes_b65_9 C hret hm0 hm1 hKh hK120 σ v2 v3 v4 t0 v3 a0 _ _ _ hf hw (lv_sub hl [1, 2, 3, 4, 5, 0] rfl) hm_8
  · replace hf := hf.2 c9
    refine lv_iload hx hb dX4_cutQuotes_60 (lv_at hl 0 rfl) ?_
    refine lv_if_eq (tgt := 70) hx hb dX4_cutQuotes_62 (by decide) (fun c16 => ?_) (fun c16 => ?_)
    · replace hf := hf.1 c16
      refine lv_iload hx hb dX4_cutQuotes_70 (lv_at hl 5 rfl) ?_
      refine x_runi hw (x_SN (n := 1) (rest := [.int v3, .ref (lay 25 a0)]) C hw (eX10_smallSign hf) q446 q447 q44 q448 rfl rfl (by decide +kernel) ⟨Nat.le_of_ble_eq_true rfl, Nat.le_of_ble_eq_true rfl⟩ rfl hl.1 rfl (Nat.le_of_ble_eq_true rfl) dX4_cutQuotes_72) (fun r18 σ17 H locs hf hw => ?_)
      try dsimp only at hf
      exact eX4_cutQuotes_b75_9 C hret hm0 hm1 hKh hK120 σ17 v2 v3 v4 t0 r18 v3 a0 _ _ _ hf hw (lv_sub hl [1, 2, 3, 4, 5, 0] rfl) hm_8
    · replace hf := hf.2 c16
      exact eX4_cutQuotes_b65_9 C hret hm0 hm1 hKh hK120 σ v2 v3 v4 t0 v3 a0 _ _ _ hf hw (lv_sub hl [1, 2, 3, 4, 5, 0] rfl) hm_8
set_option maxHeartbeats 4000000 in
set_option maxRecDepth 100000 in
theorem eX4_cutQuotes_b48_9 {p : Program} {l : Launch} {e : Env} {s : State} {m : MethodId} {args : Array Value} {below : List Frame} {meth : Method} {c : Code} {E : EC} {lay : Nat → Nat → Nat} {L : List (Nat × Nat)} {A : Nat → Prop} (C : Cx p s m args c meth yX4_cutQuotes.cls cX4_cutQuotes 6 E A) (hret : meth.sig.returnType = none) {N : Nat} {a0 : Nat} {a1 : Nat} {Q : St → Prop} {Kh : St → Int32 → Int32 → Prop} {Kx120 : St → Prop} (hm0 : (4, a0) ∈ L) (hm1 : (5, a1) ∈ L) (hKh : ∀ (σ : St) (w2 : Int32) (w3 : Int32) (H : Heap) (locs : List Loc) (ls : Array Slot), Kh σ w2 w3 → Wo E lay L A s σ H locs → lv_has ls 6 [(0, .ref (lay 4 a0)), (1, .ref (lay 5 a1)), (2, .int w2), (3, .int w3)] → W p l e rmX4_cutQuotes s m args below meth c H locs 0 0 (MQ below (va_Qv Q (Bd E lay L A) A) args s 0 0 A) (F0 m 9 ls [])) (hK120 : ∀ (σ : St) (H : Heap) (locs : List Loc) (ls : Array Slot), Kx120 σ → Wo E lay L A s σ H locs → lv_has ls 6 [] → W p l e rmX4_cutQuotes s m args below meth c H locs 0 0 (MQ below (va_Qv Q (Bd E lay L A) A) args s 0 0 A) (F0 m 120 ls [])) (σ : St) (v2 : Int32) (v3 : Int32) (v4 : Int32) (H : Heap) (locs : List Loc) (ls : Array Slot) (hf : fX4_cutQuotes_b48_9 N a0 a1 Q Kh Kx120 σ v2 v3 v4) (hw : Wo E lay L A s σ H locs) (hl : lv_has ls 6 [(0, .ref (lay 4 a0)), (1, .ref (lay 5 a1)), (2, .int v2), (3, .int v3), (4, .int v4)]) : W p l e rmX4_cutQuotes s m args below meth c H locs 0 0 (MQ below (va_Qv Q (Bd E lay L A) A) args s 0 0 A) (F0 m 48 ls []) := by
  have hx := C.1
  have hb := C.2.1
  unfold fX4_cutQuotes_b48_9 at hf
  refine lv_iconst (v := 0) hx hb dX4_cutQuotes_48 (by decide) ?_
  exact eX4_cutQuotes_b49_9 C hret hm0 hm1 hKh hK120 σ v2 v3 v4 (0 : Int32) _ _ _ hf hw (lv_sub hl [0, 1, 2, 3, 4] rfl)
set_option maxHeartbeats 4000000 in
set_option maxRecDepth 100000 in
theorem eX4_cutQuotes_l9 {p : Program} {l : Launch} {e : Env} {s : State} {m : MethodId} {args : Array Value} {below : List Frame} {meth : Method} {c : Code} {E : EC} {lay : Nat → Nat → Nat} {L : List (Nat × Nat)} {A : Nat → Prop} (C : Cx p s m args c meth yX4_cutQuotes.cls cX4_cutQuotes 6 E A) (hret : meth.sig.returnType = none) {N : Nat} {a0 : Nat} {a1 : Nat} {Q : St → Prop} {Kx120 : St → Prop} (hm0 : (4, a0) ∈ L) (hm1 : (5, a1) ∈ L) (hK120 : ∀ (σ : St) (H : Heap) (locs : List Loc) (ls : Array Slot), Kx120 σ → Wo E lay L A s σ H locs → lv_has ls 6 [] → W p l e rmX4_cutQuotes s m args below meth c H locs 0 0 (MQ below (va_Qv Q (Bd E lay L A) A) args s 0 0 A) (F0 m 120 ls [])) : ∀ (n : Nat) (σ : St) (v2 : Int32) (v3 : Int32) (H : Heap) (locs : List Loc) (ls : Array Slot), fX4_cutQuotes_l9 N a0 a1 Q Kx120 n σ v2 v3 → Wo E lay L A s σ H locs → lv_has ls 6 [(0, .ref (lay 4 a0)), (1, .ref (lay 5 a1)), (2, .int v2), (3, .int v3)] → W p l e rmX4_cutQuotes s m args below meth c H locs 0 0 (MQ below (va_Qv Q (Bd E lay L A) A) args s 0 0 A) (F0 m 9 ls []) := by
  have hx := C.1
  have hb := C.2.1
  intro n
  induction n with
  | zero => intro σ v2 v3 H locs ls hf; exact hf.elim
  | succ n ih =>
    intro σ v2 v3 H locs ls hf hw hl
    rw [fX4_cutQuotes_l9] at hf
    refine lv_iload_n hx hb dX4_cutQuotes_9 rfl (lv_at hl 3 rfl) ?_
    refine lv_aload_n hx hb dX4_cutQuotes_10 rfl (lv_at hl 0 rfl) ?_
    refine x_get (v := .int (sF σ 4 a0 3)) (j := 3) C hw hm0 rfl (by decide) (by decide) rfl q244 dX4_cutQuotes_11 ?_
    refine lv_icmp_ge (tgt := 120) hx hb dX4_cutQuotes_14 (by decide) (fun c2 => ?_) (fun c2 => ?_)
    · replace hf := hf.1 c2
      exact hK120 σ _ _ _ hf hw (lv_sub hl [] rfl)
    · replace hf := hf.2 c2
      refine lv_iload_n hx hb dX4_cutQuotes_17 rfl (lv_at hl 3 rfl) ?_
      refine lv_aload_n hx hb dX4_cutQuotes_18 rfl (lv_at hl 0 rfl) ?_
      have hm_3 : (25, a0) ∈ L := hw.2.2.2.1 4 a0 hm0 0 (by decide) (by decide) rfl
      refine x_get (v := .ref (lay 25 a0)) (j := 0) C hw hm0 rfl (by decide) (by decide) rfl q241 dX4_cutQuotes_19 ?_
      refine x_alen (v := 200) C hw hm_3 (by decide) (by decide) (by decide) dX4_cutQuotes_22 ?_
      refine lv_icmp_ge (tgt := 120) hx hb dX4_cutQuotes_23 (by decide) (fun c4 => ?_) (fun c4 => ?_)
      · replace hf := hf.1 c4
        exact hK120 σ _ _ _ hf hw (lv_sub hl [] rfl)
      · replace hf := hf.2 c4
        refine lv_aload_n hx hb dX4_cutQuotes_26 rfl (lv_at hl 1 rfl) ?_
        refine lv_iload_n hx hb dX4_cutQuotes_27 rfl (lv_at hl 3 rfl) ?_
        refine x_runi hw (x_V (n := 1) (rest := []) C hw hm1 (by decide) (eX5_signAt hf hm1) q445 q361 q362 q52 q363 rfl rfl (by decide +kernel) ⟨Nat.le_of_ble_eq_true rfl, Nat.le_of_ble_eq_true rfl⟩ rfl hl.1 rfl (Nat.le_of_ble_eq_true rfl) dX4_cutQuotes_28) (fun r6 σ5 H locs hf hw => ?_)
        try dsimp only at hf
        refine lv_istore (lv' := [(4, .int r6), (0, .ref (lay 4 a0)), (1, .ref (lay 5 a1)), (2, .int v2), (3, .int v3)]) hx hb dX4_cutQuotes_31 hl (by decide) rfl (fun ls hl => ?_)
        refine lv_iload_n hx hb dX4_cutQuotes_33 rfl (lv_at hl 3 rfl) ?_
        refine lv_if_ne (tgt := 48) hx hb dX4_cutQuotes_34 (by decide) (fun c7 => ?_) (fun c7 => ?_)
        · replace hf := hf.1 c7
          exact eX4_cutQuotes_b48_9 C hret hm0 hm1 ih hK120 σ5 v2 v3 r6 _ _ _ hf hw (lv_sub hl [1, 2, 3, 4, 0] rfl)
        · replace hf := hf.2 c7
          refine lv_iload hx hb dX4_cutQuotes_37 (lv_at hl 0 rfl) ?_
          refine lv_bipush (v := 91) hx hb dX4_cutQuotes_39 (by decide) ?_
          refine lv_icmp_ne (tgt := 48) hx hb dX4_cutQuotes_41 (by decide) (fun c19 => ?_) (fun c19 => ?_)
          · replace hf := hf.1 c19
            exact eX4_cutQuotes_b48_9 C hret hm0 hm1 ih hK120 σ5 v2 v3 r6 _ _ _ hf hw (lv_sub hl [1, 2, 3, 4, 0] rfl)
          · replace hf := hf.2 c19
            refine lv_iconst (v := 1) hx hb dX4_cutQuotes_44 (by decide) ?_
            refine lv_goto (tgt := 49) hx hb dX4_cutQuotes_45 (by decide) ?_
            exact eX4_cutQuotes_b49_9 C hret hm0 hm1 ih hK120 σ5 v2 v3 r6 (1 : Int32) _ _ _ hf hw (lv_sub hl [1, 2, 3, 4, 0] rfl)
def fX4_cutQuotes (N : Nat) (σ : St) (a0 : Nat) (a1 : Nat) (Q : St → Prop) : Prop := ∀ σ1 : St, σ1 = setF σ 4 a0 7 (0 : Int32) → fX4_cutQuotes_l9 N a0 a1 Q (fun (σ20 : St) => Q σ20) N σ1 (0 : Int32) (0 : Int32)
set_option maxHeartbeats 4000000 in
set_option maxRecDepth 100000 in
theorem eX4_cutQuotes {l : Launch} {E : EC} {lay : Nat → Nat → Nat} {L : List (Nat × Nat)} {A : Nat → Prop} {N : Nat} {σ : St} {a0 : Nat} {a1 : Nat} {Q : St → Prop} (hf : fX4_cutQuotes N σ a0 a1 Q) (hm0 : (4, a0) ∈ L) (hm1 : (5, a1) ∈ L) : Met l yX4_cutQuotes (.code yX4_cutQuotes cX4_cutQuotes 6 (none) :: big) rmX4_cutQuotes (va_Pc [.ref (lay 4 a0), .ref (lay 5 a1)] (Bp E lay L A σ)) (va_Qv Q (Bd E lay L A) A) 0 0 A := by
  refine x_met (by decide +kernel) (Nat.le_of_ble_eq_true rfl) ?_
  intro p e s m args below meth c ls C hret hw hl
  have hx := C.1
  have hb := C.2.1
  have hl : lv_has ls 6 [(0, .ref (lay 4 a0)), (1, .ref (lay 5 a1))] := hl
  unfold fX4_cutQuotes at hf
  refine lv_iconst (v := 0) hx hb dX4_cutQuotes_0 (by decide) ?_
  refine lv_istore_n (lv' := [(2, .int (0 : Int32)), (0, .ref (lay 4 a0)), (1, .ref (lay 5 a1))]) hx hb dX4_cutQuotes_1 rfl hl (by decide) rfl (fun ls hl => ?_)
  refine lv_aload_n hx hb dX4_cutQuotes_2 rfl (lv_at hl 1 rfl) ?_
  refine lv_iconst (v := 0) hx hb dX4_cutQuotes_3 (by decide) ?_
  refine x_putI (j := 7) (ty := .int) C hw hm0 rfl (by decide) (by decide) rfl rfl (by decide +kernel) rfl rfl q256 dX4_cutQuotes_4 (fun σ1 H locs eσ1 hw => ?_)
  replace hf := hf σ1 eσ1
  refine lv_iconst (v := 0) hx hb dX4_cutQuotes_7 (by decide) ?_
  refine lv_istore_n (lv' := [(3, .int (0 : Int32)), (2, .int (0 : Int32)), (0, .ref (lay 4 a0)), (1, .ref (lay 5 a1))]) hx hb dX4_cutQuotes_8 rfl hl (by decide) rfl (fun ls hl => ?_)
  refine eX4_cutQuotes_l9 C hret hm0 hm1 ?_ N σ1 (0 : Int32) (0 : Int32) _ _ _ hf hw (lv_sub hl [2, 3, 1, 0] rfl)
  · intro σ20 H locs ls hf hw hl
    exact x_vret C hret hw hf dX4_cutQuotes_120
-- X10_isLetterOrMark
abbrev rmX10_isLetterOrMark : Room := { frames := 0, cells := 0, slots := 0, locals := 0 }
def fX10_isLetterOrMark (N : Nat) (σ : St) (a0 : Int32) (Q : Int32 → St → Prop) : Prop := ((a0 < (33 : Int32) → Q (0 : Int32) σ) ∧ (¬ a0 < (33 : Int32) → (((126 : Int32) < a0 → Q (0 : Int32) σ) ∧ (¬ (126 : Int32) < a0 → ((a0 = (91 : Int32) → Q (0 : Int32) σ) ∧ (¬ a0 = (91 : Int32) → ((a0 = (93 : Int32) → Q (0 : Int32) σ) ∧ (¬ a0 = (93 : Int32) → Q (1 : Int32) σ))))))))
set_option maxHeartbeats 4000000 in
set_option maxRecDepth 100000 in
theorem eX10_isLetterOrMark {l : Launch} {E : EC} {lay : Nat → Nat → Nat} {L : List (Nat × Nat)} {A : Nat → Prop} {N : Nat} {σ : St} {a0 : Int32} {Q : Int32 → St → Prop} (hf : fX10_isLetterOrMark N σ a0 Q) : Met l yX10_isLetterOrMark (.code yX10_isLetterOrMark cX10_isLetterOrMark 1 (some .boolean) :: big) rmX10_isLetterOrMark (va_Pc [.int a0] (Bp E lay L A σ)) (va_Qi (fun r u => Q r u ∧ narrow .boolean (.int r) = .int r) (Bd E lay L A) A) 0 0 A := by
  refine x_met (by decide +kernel) (Nat.le_of_ble_eq_true rfl) ?_
  intro p e s m args below meth c ls C hret hw hl
  have hx := C.1
  have hb := C.2.1
  have hl : lv_has ls 1 [(0, .int a0)] := hl
  unfold fX10_isLetterOrMark at hf
  refine lv_iload_n hx hb dX10_isLetterOrMark_0 rfl (lv_at hl 0 rfl) ?_
  refine lv_bipush (v := 33) hx hb dX10_isLetterOrMark_1 (by decide) ?_
  refine lv_icmp_lt (tgt := 28) hx hb dX10_isLetterOrMark_3 (by decide) (fun c1 => ?_) (fun c1 => ?_)
  · replace hf := hf.1 c1
    refine lv_iconst (v := 0) hx hb dX10_isLetterOrMark_28 (by decide) ?_
    exact x_zret C hret (by decide) hw ⟨hf, by decide⟩ dX10_isLetterOrMark_29
  · replace hf := hf.2 c1
    refine lv_iload_n hx hb dX10_isLetterOrMark_6 rfl (lv_at hl 0 rfl) ?_
    refine lv_bipush (v := 126) hx hb dX10_isLetterOrMark_7 (by decide) ?_
    refine lv_icmp_gt (tgt := 28) hx hb dX10_isLetterOrMark_9 (by decide) (fun c2 => ?_) (fun c2 => ?_)
    · replace hf := hf.1 c2
      refine lv_iconst (v := 0) hx hb dX10_isLetterOrMark_28 (by decide) ?_
      exact x_zret C hret (by decide) hw ⟨hf, by decide⟩ dX10_isLetterOrMark_29
    · replace hf := hf.2 c2
      refine lv_iload_n hx hb dX10_isLetterOrMark_12 rfl (lv_at hl 0 rfl) ?_
      refine lv_bipush (v := 91) hx hb dX10_isLetterOrMark_13 (by decide) ?_
      refine lv_icmp_eq (tgt := 28) hx hb dX10_isLetterOrMark_15 (by decide) (fun c3 => ?_) (fun c3 => ?_)
      · replace hf := hf.1 c3
        refine lv_iconst (v := 0) hx hb dX10_isLetterOrMark_28 (by decide) ?_
        exact x_zret C hret (by decide) hw ⟨hf, by decide⟩ dX10_isLetterOrMark_29
      · replace hf := hf.2 c3
        refine lv_iload_n hx hb dX10_isLetterOrMark_18 rfl (lv_at hl 0 rfl) ?_
        refine lv_bipush (v := 93) hx hb dX10_isLetterOrMark_19 (by decide) ?_
        refine lv_icmp_eq (tgt := 28) hx hb dX10_isLetterOrMark_21 (by decide) (fun c4 => ?_) (fun c4 => ?_)
        · replace hf := hf.1 c4
          refine lv_iconst (v := 0) hx hb dX10_isLetterOrMark_28 (by decide) ?_
          exact x_zret C hret (by decide) hw ⟨hf, by decide⟩ dX10_isLetterOrMark_29
        · replace hf := hf.2 c4
          refine lv_iconst (v := 1) hx hb dX10_isLetterOrMark_24 (by decide) ?_
          refine lv_goto (tgt := 29) hx hb dX10_isLetterOrMark_25 (by decide) ?_
          exact x_zret C hret (by decide) hw ⟨hf, by decide⟩ dX10_isLetterOrMark_29
-- X10_isLetter
abbrev rmX10_isLetter : Room := { frames := 0, cells := 0, slots := 0, locals := 0 }
def fX10_isLetter_b24 (N : Nat) (a0 : Int32) (Q : Int32 → St → Prop) (σ : St) : Prop := Q (1 : Int32) σ
def fX10_isLetter_b12 (N : Nat) (a0 : Int32) (Q : Int32 → St → Prop) (σ : St) : Prop := ((a0 < (65 : Int32) → Q (0 : Int32) σ) ∧ (¬ a0 < (65 : Int32) → (((90 : Int32) < a0 → Q (0 : Int32) σ) ∧ (¬ (90 : Int32) < a0 → fX10_isLetter_b24 N a0 Q σ))))
set_option maxHeartbeats 4000000 in
set_option maxRecDepth 100000 in
theorem eX10_isLetter_b24 {p : Program} {l : Launch} {e : Env} {s : State} {m : MethodId} {args : Array Value} {below : List Frame} {meth : Method} {c : Code} {E : EC} {lay : Nat → Nat → Nat} {L : List (Nat × Nat)} {A : Nat → Prop} (C : Cx p s m args c meth yX10_isLetter.cls cX10_isLetter 1 E A) (hret : meth.sig.returnType = some .boolean) {N : Nat} {a0 : Int32} {Q : Int32 → St → Prop} (σ : St) (H : Heap) (locs : List Loc) (ls : Array Slot) (hf : fX10_isLetter_b24 N a0 Q σ) (hw : Wo E lay L A s σ H locs) (hl : lv_has ls 1 []) : W p l e rmX10_isLetter s m args below meth c H locs 0 0 (MQ below (va_Qi (fun r u => Q r u ∧ narrow .boolean (.int r) = .int r) (Bd E lay L A) A) args s 0 0 A) (F0 m 24 ls []) := by
  have hx := C.1
  have hb := C.2.1
  unfold fX10_isLetter_b24 at hf
  refine lv_iconst (v := 1) hx hb dX10_isLetter_24 (by decide) ?_
  refine lv_goto (tgt := 29) hx hb dX10_isLetter_25 (by decide) ?_
  exact x_zret C hret (by decide) hw ⟨hf, by decide⟩ dX10_isLetter_29
set_option maxHeartbeats 4000000 in
set_option maxRecDepth 100000 in
theorem eX10_isLetter_b12 {p : Program} {l : Launch} {e : Env} {s : State} {m : MethodId} {args : Array Value} {below : List Frame} {meth : Method} {c : Code} {E : EC} {lay : Nat → Nat → Nat} {L : List (Nat × Nat)} {A : Nat → Prop} (C : Cx p s m args c meth yX10_isLetter.cls cX10_isLetter 1 E A) (hret : meth.sig.returnType = some .boolean) {N : Nat} {a0 : Int32} {Q : Int32 → St → Prop} (σ : St) (H : Heap) (locs : List Loc) (ls : Array Slot) (hf : fX10_isLetter_b12 N a0 Q σ) (hw : Wo E lay L A s σ H locs) (hl : lv_has ls 1 [(0, .int a0)]) : W p l e rmX10_isLetter s m args below meth c H locs 0 0 (MQ below (va_Qi (fun r u => Q r u ∧ narrow .boolean (.int r) = .int r) (Bd E lay L A) A) args s 0 0 A) (F0 m 12 ls []) := by
  have hx := C.1
  have hb := C.2.1
  unfold fX10_isLetter_b12 at hf
  refine lv_iload_n hx hb dX10_isLetter_12 rfl (lv_at hl 0 rfl) ?_
  refine lv_bipush (v := 65) hx hb dX10_isLetter_13 (by decide) ?_
  refine lv_icmp_lt (tgt := 28) hx hb dX10_isLetter_15 (by decide) (fun c2 => ?_) (fun c2 => ?_)
  · replace hf := hf.1 c2
    refine lv_iconst (v := 0) hx hb dX10_isLetter_28 (by decide) ?_
    exact x_zret C hret (by decide) hw ⟨hf, by decide⟩ dX10_isLetter_29
  · replace hf := hf.2 c2
    refine lv_iload_n hx hb dX10_isLetter_18 rfl (lv_at hl 0 rfl) ?_
    refine lv_bipush (v := 90) hx hb dX10_isLetter_19 (by decide) ?_
    refine lv_icmp_gt (tgt := 28) hx hb dX10_isLetter_21 (by decide) (fun c3 => ?_) (fun c3 => ?_)
    · replace hf := hf.1 c3
      refine lv_iconst (v := 0) hx hb dX10_isLetter_28 (by decide) ?_
      exact x_zret C hret (by decide) hw ⟨hf, by decide⟩ dX10_isLetter_29
    · replace hf := hf.2 c3
      exact eX10_isLetter_b24 C hret σ _ _ _ hf hw (lv_sub hl [] rfl)
def fX10_isLetter (N : Nat) (σ : St) (a0 : Int32) (Q : Int32 → St → Prop) : Prop := ((a0 < (97 : Int32) → fX10_isLetter_b12 N a0 Q σ) ∧ (¬ a0 < (97 : Int32) → ((a0 ≤ (122 : Int32) → fX10_isLetter_b24 N a0 Q σ) ∧ (¬ a0 ≤ (122 : Int32) → fX10_isLetter_b12 N a0 Q σ))))
set_option maxHeartbeats 4000000 in
set_option maxRecDepth 100000 in
theorem eX10_isLetter {l : Launch} {E : EC} {lay : Nat → Nat → Nat} {L : List (Nat × Nat)} {A : Nat → Prop} {N : Nat} {σ : St} {a0 : Int32} {Q : Int32 → St → Prop} (hf : fX10_isLetter N σ a0 Q) : Met l yX10_isLetter (.code yX10_isLetter cX10_isLetter 1 (some .boolean) :: big) rmX10_isLetter (va_Pc [.int a0] (Bp E lay L A σ)) (va_Qi (fun r u => Q r u ∧ narrow .boolean (.int r) = .int r) (Bd E lay L A) A) 0 0 A := by
  refine x_met (by decide +kernel) (Nat.le_of_ble_eq_true rfl) ?_
  intro p e s m args below meth c ls C hret hw hl
  have hx := C.1
  have hb := C.2.1
  have hl : lv_has ls 1 [(0, .int a0)] := hl
  unfold fX10_isLetter at hf
  refine lv_iload_n hx hb dX10_isLetter_0 rfl (lv_at hl 0 rfl) ?_
  refine lv_bipush (v := 97) hx hb dX10_isLetter_1 (by decide) ?_
  refine lv_icmp_lt (tgt := 12) hx hb dX10_isLetter_3 (by decide) (fun c1 => ?_) (fun c1 => ?_)
  · replace hf := hf.1 c1
    exact eX10_isLetter_b12 C hret σ _ _ _ hf hw (lv_sub hl [0] rfl)
  · replace hf := hf.2 c1
    refine lv_iload_n hx hb dX10_isLetter_6 rfl (lv_at hl 0 rfl) ?_
    refine lv_bipush (v := 122) hx hb dX10_isLetter_7 (by decide) ?_
    refine lv_icmp_le (tgt := 24) hx hb dX10_isLetter_9 (by decide) (fun c4 => ?_) (fun c4 => ?_)
    · replace hf := hf.1 c4
      exact eX10_isLetter_b24 C hret σ _ _ _ hf hw (lv_sub hl [] rfl)
    · replace hf := hf.2 c4
      exact eX10_isLetter_b12 C hret σ _ _ _ hf hw (lv_sub hl [0] rfl)
-- X4_beginWord
abbrev rmX4_beginWord : Room := { frames := 0, cells := 0, slots := 0, locals := 0 }
def fX4_beginWord (N : Nat) (σ : St) (a0 : Nat) (a1 : Int32) (Q : St → Prop) : Prop := (((sF σ 4 a0 4) < (100 : Int32) → (vp_in (sF σ 4 a0 4) 100 ∧ ∀ σ4 : St, σ4 = setA σ 26 a0 ((sF σ 4 a0 4)).toNatClampNeg a1 → (vp_in (sF σ4 4 a0 4) 100 ∧ ∀ σ6 : St, σ6 = setA σ4 27 a0 ((sF σ4 4 a0 4)).toNatClampNeg (0 : Int32) → ∀ σ7 : St, σ7 = setF σ6 4 a0 4 ((sF σ6 4 a0 4) + (1 : Int32)) → Q σ7))) ∧ (¬ (sF σ 4 a0 4) < (100 : Int32) → Q σ))
set_option maxHeartbeats 4000000 in
set_option maxRecDepth 100000 in
theorem eX4_beginWord {l : Launch} {E : EC} {lay : Nat → Nat → Nat} {L : List (Nat × Nat)} {A : Nat → Prop} {N : Nat} {σ : St} {a0 : Nat} {a1 : Int32} {Q : St → Prop} (hf : fX4_beginWord N σ a0 a1 Q) (hm0 : (4, a0) ∈ L) : Met l yX4_beginWord (.code yX4_beginWord cX4_beginWord 2 (none) :: big) rmX4_beginWord (va_Pc [.ref (lay 4 a0), .int a1] (Bp E lay L A σ)) (va_Qv Q (Bd E lay L A) A) 0 0 A := by
  refine x_met (by decide +kernel) (Nat.le_of_ble_eq_true rfl) ?_
  intro p e s m args below meth c ls C hret hw hl
  have hx := C.1
  have hb := C.2.1
  have hl : lv_has ls 2 [(0, .ref (lay 4 a0)), (1, .int a1)] := hl
  unfold fX4_beginWord at hf
  refine lv_aload_n hx hb dX4_beginWord_0 rfl (lv_at hl 0 rfl) ?_
  refine x_get (v := .int (sF σ 4 a0 4)) (j := 4) C hw hm0 rfl (by decide) (by decide) rfl q247 dX4_beginWord_1 ?_
  refine lv_aload_n hx hb dX4_beginWord_4 rfl (lv_at hl 0 rfl) ?_
  have hm_1 : (26, a0) ∈ L := hw.2.2.2.1 4 a0 hm0 1 (by decide) (by decide) rfl
  refine x_get (v := .ref (lay 26 a0)) (j := 1) C hw hm0 rfl (by decide) (by decide) rfl q242 dX4_beginWord_5 ?_
  refine x_alen (v := 100) C hw hm_1 (by decide) (by decide) (by decide) dX4_beginWord_8 ?_
  refine lv_icmp_lt (tgt := 13) hx hb dX4_beginWord_9 (by decide) (fun c2 => ?_) (fun c2 => ?_)
  · replace hf := hf.1 c2
    refine lv_aload_n hx hb dX4_beginWord_13 rfl (lv_at hl 0 rfl) ?_
    have hm_3 : (26, a0) ∈ L := hw.2.2.2.1 4 a0 hm0 1 (by decide) (by decide) rfl
    refine x_get (v := .ref (lay 26 a0)) (j := 1) C hw hm0 rfl (by decide) (by decide) rfl q242 dX4_beginWord_14 ?_
    refine lv_aload_n hx hb dX4_beginWord_17 rfl (lv_at hl 0 rfl) ?_
    refine x_get (v := .int (sF σ 4 a0 4)) (j := 4) C hw hm0 rfl (by decide) (by decide) rfl q247 dX4_beginWord_18 ?_
    refine lv_iload_n hx hb dX4_beginWord_21 rfl (lv_at hl 1 rfl) ?_
    refine x_iast C hw hm_3 (by decide) rfl hf.1 dX4_beginWord_22 (fun σ4 H locs eσ4 hw => ?_)
    replace hf := hf.2 σ4 eσ4
    refine lv_aload_n hx hb dX4_beginWord_23 rfl (lv_at hl 0 rfl) ?_
    have hm_5 : (27, a0) ∈ L := hw.2.2.2.1 4 a0 hm0 2 (by decide) (by decide) rfl
    refine x_get (v := .ref (lay 27 a0)) (j := 2) C hw hm0 rfl (by decide) (by decide) rfl q243 dX4_beginWord_24 ?_
    refine lv_aload_n hx hb dX4_beginWord_27 rfl (lv_at hl 0 rfl) ?_
    refine x_get (v := .int (sF σ4 4 a0 4)) (j := 4) C hw hm0 rfl (by decide) (by decide) rfl q247 dX4_beginWord_28 ?_
    refine lv_iconst (v := 0) hx hb dX4_beginWord_31 (by decide) ?_
    refine x_iast C hw hm_5 (by decide) rfl hf.1 dX4_beginWord_32 (fun σ6 H locs eσ6 hw => ?_)
    replace hf := hf.2 σ6 eσ6
    refine lv_aload_n hx hb dX4_beginWord_33 rfl (lv_at hl 0 rfl) ?_
    refine lv_dup hx hb dX4_beginWord_34 rfl ?_
    refine x_get (v := .int (sF σ6 4 a0 4)) (j := 4) C hw hm0 rfl (by decide) (by decide) rfl q247 dX4_beginWord_35 ?_
    refine lv_iconst (v := 1) hx hb dX4_beginWord_38 (by decide) ?_
    refine lv_iadd hx hb dX4_beginWord_39 ?_
    refine x_putI (j := 4) (ty := .int) C hw hm0 rfl (by decide) (by decide) rfl rfl (by decide +kernel) rfl rfl q247 dX4_beginWord_40 (fun σ7 H locs eσ7 hw => ?_)
    replace hf := hf σ7 eσ7
    exact x_vret C hret hw hf dX4_beginWord_43
  · replace hf := hf.2 c2
    exact x_vret C hret hw hf dX4_beginWord_12
-- X4_lengthenWord
abbrev rmX4_lengthenWord : Room := { frames := 0, cells := 0, slots := 0, locals := 0 }
def fX4_lengthenWord (N : Nat) (σ : St) (a0 : Nat) (Q : St → Prop) : Prop := (((sF σ 4 a0 4) ≤ 0 → Q σ) ∧ (¬ (sF σ 4 a0 4) ≤ 0 → (((100 : Int32) < (sF σ 4 a0 4) → Q σ) ∧ (¬ (100 : Int32) < (sF σ 4 a0 4) → (vp_in ((sF σ 4 a0 4) - (1 : Int32)) 100 ∧ (vp_in ((sF σ 4 a0 4) - (1 : Int32)) 100 ∧ ∀ σ5 : St, σ5 = setA σ 27 a0 (((sF σ 4 a0 4) - (1 : Int32))).toNatClampNeg ((sA σ 27 a0 (((sF σ 4 a0 4) - (1 : Int32))).toNatClampNeg) + (1 : Int32)) → Q σ5))))))
set_option maxHeartbeats 4000000 in
set_option maxRecDepth 100000 in
theorem eX4_lengthenWord {l : Launch} {E : EC} {lay : Nat → Nat → Nat} {L : List (Nat × Nat)} {A : Nat → Prop} {N : Nat} {σ : St} {a0 : Nat} {Q : St → Prop} (hf : fX4_lengthenWord N σ a0 Q) (hm0 : (4, a0) ∈ L) : Met l yX4_lengthenWord (.code yX4_lengthenWord cX4_lengthenWord 1 (none) :: big) rmX4_lengthenWord (va_Pc [.ref (lay 4 a0)] (Bp E lay L A σ)) (va_Qv Q (Bd E lay L A) A) 0 0 A := by
  refine x_met (by decide +kernel) (Nat.le_of_ble_eq_true rfl) ?_
  intro p e s m args below meth c ls C hret hw hl
  have hx := C.1
  have hb := C.2.1
  have hl : lv_has ls 1 [(0, .ref (lay 4 a0))] := hl
  unfold fX4_lengthenWord at hf
  refine lv_aload_n hx hb dX4_lengthenWord_0 rfl (lv_at hl 0 rfl) ?_
  refine x_get (v := .int (sF σ 4 a0 4)) (j := 4) C hw hm0 rfl (by decide) (by decide) rfl q247 dX4_lengthenWord_1 ?_
  refine lv_if_le (tgt := 34) hx hb dX4_lengthenWord_4 (by decide) (fun c1 => ?_) (fun c1 => ?_)
  · replace hf := hf.1 c1
    exact x_vret C hret hw hf dX4_lengthenWord_34
  · replace hf := hf.2 c1
    refine lv_aload_n hx hb dX4_lengthenWord_7 rfl (lv_at hl 0 rfl) ?_
    refine x_get (v := .int (sF σ 4 a0 4)) (j := 4) C hw hm0 rfl (by decide) (by decide) rfl q247 dX4_lengthenWord_8 ?_
    refine lv_aload_n hx hb dX4_lengthenWord_11 rfl (lv_at hl 0 rfl) ?_
    have hm_2 : (27, a0) ∈ L := hw.2.2.2.1 4 a0 hm0 2 (by decide) (by decide) rfl
    refine x_get (v := .ref (lay 27 a0)) (j := 2) C hw hm0 rfl (by decide) (by decide) rfl q243 dX4_lengthenWord_12 ?_
    refine x_alen (v := 100) C hw hm_2 (by decide) (by decide) (by decide) dX4_lengthenWord_15 ?_
    refine lv_icmp_gt (tgt := 34) hx hb dX4_lengthenWord_16 (by decide) (fun c3 => ?_) (fun c3 => ?_)
    · replace hf := hf.1 c3
      exact x_vret C hret hw hf dX4_lengthenWord_34
    · replace hf := hf.2 c3
      refine lv_aload_n hx hb dX4_lengthenWord_19 rfl (lv_at hl 0 rfl) ?_
      have hm_4 : (27, a0) ∈ L := hw.2.2.2.1 4 a0 hm0 2 (by decide) (by decide) rfl
      refine x_get (v := .ref (lay 27 a0)) (j := 2) C hw hm0 rfl (by decide) (by decide) rfl q243 dX4_lengthenWord_20 ?_
      refine lv_aload_n hx hb dX4_lengthenWord_23 rfl (lv_at hl 0 rfl) ?_
      refine x_get (v := .int (sF σ 4 a0 4)) (j := 4) C hw hm0 rfl (by decide) (by decide) rfl q247 dX4_lengthenWord_24 ?_
      refine lv_iconst (v := 1) hx hb dX4_lengthenWord_27 (by decide) ?_
      refine lv_isub hx hb dX4_lengthenWord_28 ?_
      refine lv_dup2_11 hx hb dX4_lengthenWord_29 rfl rfl ?_
      refine x_iald C hw hm_4 (by decide) rfl hf.1 dX4_lengthenWord_30 ?_
      replace hf := hf.2
      refine lv_iconst (v := 1) hx hb dX4_lengthenWord_31 (by decide) ?_
      refine lv_iadd hx hb dX4_lengthenWord_32 ?_
      refine x_iast C hw hm_4 (by decide) rfl hf.1 dX4_lengthenWord_33 (fun σ5 H locs eσ5 hw => ?_)
      replace hf := hf.2 σ5 eσ5
      exact x_vret C hret hw hf dX4_lengthenWord_34
-- X4_findWords
abbrev rmX4_findWords : Room := { frames := 1, cells := 0, slots := 0, locals := 21 }
def fX4_findWords_b95_19 (N : Nat) (a0 : Nat) (Q : St → Prop) (Kh : St → Int32 → Int32 → Prop) (Kx103 : St → Prop) (σ : St) (v2 : Int32) (v3 : Int32) : Prop := Kh σ v3 (v2 + (1 : Int32))
def fX4_findWords_b91_19 (N : Nat) (a0 : Nat) (Q : St → Prop) (Kh : St → Int32 → Int32 → Prop) (Kx103 : St → Prop) (σ : St) (v2 : Int32) (v3 : Int32) : Prop := fX4_lengthenWord N σ a0 (fun (σ17 : St) => fX4_findWords_b95_19 N a0 Q Kh Kx103 σ17 v2 v3)
def fX4_findWords_b58_19 (N : Nat) (a0 : Nat) (Q : St → Prop) (Kh : St → Int32 → Int32 → Prop) (Kx103 : St → Prop) (σ : St) (v1 : Int32) (v2 : Int32) : Prop := (vp_in v2 200 ∧ fX10_isLetter N σ (sA σ 25 a0 (v2).toNatClampNeg) (fun (r13 : Int32) (σ12 : St) => ((r13 = 0 → fX4_findWords_b95_19 N a0 Q Kh Kx103 σ12 v2 r13) ∧ (¬ r13 = 0 → ∀ σ15 : St, σ15 = setF σ12 4 a0 5 ((sF σ12 4 a0 5) + (1 : Int32)) → ((¬ v1 = 0 → fX4_findWords_b91_19 N a0 Q Kh Kx103 σ15 v2 r13) ∧ (v1 = 0 → fX4_beginWord N σ15 a0 v2 (fun (σ18 : St) => fX4_findWords_b91_19 N a0 Q Kh Kx103 σ18 v2 r13)))))))
def fX4_findWords_l19 (N : Nat) (a0 : Nat) (Q : St → Prop) (Kx103 : St → Prop) : Nat → St → Int32 → Int32 → Prop
  | 0, _, _, _ => False
  | n + 1, σ, v1, v2 => (((sF σ 4 a0 3) ≤ v2 → Kx103 σ) ∧ (¬ (sF σ 4 a0 3) ≤ v2 → (((200 : Int32) ≤ v2 → Kx103 σ) ∧ (¬ (200 : Int32) ≤ v2 → (vp_in v2 200 ∧ fX10_isLetterOrMark N σ (sA σ 25 a0 (v2).toNatClampNeg) (fun (r9 : Int32) (σ8 : St) => ((r9 = 0 → fX4_findWords_b58_19 N a0 Q (fun (σ : St) (w1 : Int32) (w2 : Int32) => fX4_findWords_l19 N a0 Q Kx103 n σ w1 w2) Kx103 σ8 v1 v2) ∧ (¬ r9 = 0 → ∀ σ19 : St, σ19 = setF σ8 4 a0 6 ((sF σ8 4 a0 6) + (1 : Int32)) → fX4_findWords_b58_19 N a0 Q (fun (σ : St) (w1 : Int32) (w2 : Int32) => fX4_findWords_l19 N a0 Q Kx103 n σ w1 w2) Kx103 σ19 v1 v2))))))))
set_option maxHeartbeats 4000000 in
set_option maxRecDepth 100000 in
theorem eX4_findWords_b95_19 {p : Program} {l : Launch} {e : Env} {s : State} {m : MethodId} {args : Array Value} {below : List Frame} {meth : Method} {c : Code} {E : EC} {lay : Nat → Nat → Nat} {L : List (Nat × Nat)} {A : Nat → Prop} (C : Cx p s m args c meth yX4_findWords.cls cX4_findWords 4 E A) (hret : meth.sig.returnType = none) {N : Nat} {a0 : Nat} {Q : St → Prop} {Kh : St → Int32 → Int32 → Prop} {Kx103 : St → Prop} (hm0 : (4, a0) ∈ L) (hKh : ∀ (σ : St) (w1 : Int32) (w2 : Int32) (H : Heap) (locs : List Loc) (ls : Array Slot), Kh σ w1 w2 → Wo E lay L A s σ H locs → lv_has ls 4 [(0, .ref (lay 4 a0)), (1, .int w1), (2, .int w2)] → W p l e rmX4_findWords s m args below meth c H locs 0 0 (MQ below (va_Qv Q (Bd E lay L A) A) args s 0 0 A) (F0 m 19 ls [])) (hK103 : ∀ (σ : St) (H : Heap) (locs : List Loc) (ls : Array Slot), Kx103 σ → Wo E lay L A s σ H locs → lv_has ls 4 [] → W p l e rmX4_findWords s m args below meth c H locs 0 0 (MQ below (va_Qv Q (Bd E lay L A) A) args s 0 0 A) (F0 m 103 ls [])) (σ : St) (v2 : Int32) (v3 : Int32) (H : Heap) (locs : List Loc) (ls : Array Slot) (hf : fX4_findWords_b95_19 N a0 Q Kh Kx103 σ v2 v3) (hw : Wo E lay L A s σ H locs) (hl : lv_has ls 4 [(0, .ref (lay 4 a0)), (2, .int v2), (3, .int v3)]) : W p l e rmX4_findWords s m args below meth c H locs 0 0 (MQ below (va_Qv Q (Bd E lay L A) A) args s 0 0 A) (F0 m 95 ls []) := by
  have hx := C.1
  have hb := C.2.1
  unfold fX4_findWords_b95_19 at hf
  refine lv_iload_n hx hb dX4_findWords_95 rfl (lv_at hl 2 rfl) ?_
  refine lv_istore_n (lv' := [(1, .int v3), (0, .ref (lay 4 a0)), (2, .int v2), (3, .int v3)]) hx hb dX4_findWords_96 rfl hl (by decide) rfl (fun ls hl => ?_)
  refine lv_iinc (v := (v2 + (1 : Int32))) (lv' := [(2, .int (v2 + (1 : Int32))), (1, .int v3), (0, .ref (lay 4 a0)), (3, .int v3)]) hx hb dX4_findWords_97 hl (k := 2) rfl (by rfl) (by decide) rfl (fun ls hl => ?_)
  refine lv_goto (tgt := 19) hx hb dX4_findWords_100 (by decide) ?_
  exact hKh σ v3 (v2 + (1 : Int32)) _ _ _ hf hw (lv_sub hl [2, 1, 0] rfl)
set_option maxHeartbeats 4000000 in
set_option maxRecDepth 100000 in
theorem eX4_findWords_b91_19 {p : Program} {l : Launch} {e : Env} {s : State} {m : MethodId} {args : Array Value} {below : List Frame} {meth : Method} {c : Code} {E : EC} {lay : Nat → Nat → Nat} {L : List (Nat × Nat)} {A : Nat → Prop} (C : Cx p s m args c meth yX4_findWords.cls cX4_findWords 4 E A) (hret : meth.sig.returnType = none) {N : Nat} {a0 : Nat} {Q : St → Prop} {Kh : St → Int32 → Int32 → Prop} {Kx103 : St → Prop} (hm0 : (4, a0) ∈ L) (hKh : ∀ (σ : St) (w1 : Int32) (w2 : Int32) (H : Heap) (locs : List Loc) (ls : Array Slot), Kh σ w1 w2 → Wo E lay L A s σ H locs → lv_has ls 4 [(0, .ref (lay 4 a0)), (1, .int w1), (2, .int w2)] → W p l e rmX4_findWords s m args below meth c H locs 0 0 (MQ below (va_Qv Q (Bd E lay L A) A) args s 0 0 A) (F0 m 19 ls [])) (hK103 : ∀ (σ : St) (H : Heap) (locs : List Loc) (ls : Array Slot), Kx103 σ → Wo E lay L A s σ H locs → lv_has ls 4 [] → W p l e rmX4_findWords s m args below meth c H locs 0 0 (MQ below (va_Qv Q (Bd E lay L A) A) args s 0 0 A) (F0 m 103 ls [])) (σ : St) (v2 : Int32) (v3 : Int32) (H : Heap) (locs : List Loc) (ls : Array Slot) (hf : fX4_findWords_b91_19 N a0 Q Kh Kx103 σ v2 v3) (hw : Wo E lay L A s σ H locs) (hl : lv_has ls 4 [(0, .ref (lay 4 a0)), (2, .int v2), (3, .int v3)]) : W p l e rmX4_findWords s m args below meth c H locs 0 0 (MQ below (va_Qv Q (Bd E lay L A) A) args s 0 0 A) (F0 m 91 ls []) := by
  have hx := C.1
  have hb := C.2.1
  unfold fX4_findWords_b91_19 at hf
  refine lv_aload_n hx hb dX4_findWords_91 rfl (lv_at hl 0 rfl) ?_
  refine x_runv hw (x_V (n := 0) (rest := []) C hw hm0 (by decide) (eX4_lengthenWord hf hm0) q463 q465 q5 q51 q466 rfl rfl (by decide +kernel) ⟨Nat.le_of_ble_eq_true rfl, Nat.le_of_ble_eq_true rfl⟩ rfl hl.1 rfl (Nat.le_of_ble_eq_true rfl) dX4_findWords_92) (fun σ17 H locs hf hw => ?_)
  try dsimp only at hf
  exact eX4_findWords_b95_19 C hret hm0 hKh hK103 σ17 v2 v3 _ _ _ hf hw (lv_sub hl [0, 1, 2] rfl)
set_option maxHeartbeats 4000000 in
set_option maxRecDepth 100000 in
theorem eX4_findWords_b58_19 {p : Program} {l : Launch} {e : Env} {s : State} {m : MethodId} {args : Array Value} {below : List Frame} {meth : Method} {c : Code} {E : EC} {lay : Nat → Nat → Nat} {L : List (Nat × Nat)} {A : Nat → Prop} (C : Cx p s m args c meth yX4_findWords.cls cX4_findWords 4 E A) (hret : meth.sig.returnType = none) {N : Nat} {a0 : Nat} {Q : St → Prop} {Kh : St → Int32 → Int32 → Prop} {Kx103 : St → Prop} (hm0 : (4, a0) ∈ L) (hKh : ∀ (σ : St) (w1 : Int32) (w2 : Int32) (H : Heap) (locs : List Loc) (ls : Array Slot), Kh σ w1 w2 → Wo E lay L A s σ H locs → lv_has ls 4 [(0, .ref (lay 4 a0)), (1, .int w1), (2, .int w2)] → W p l e rmX4_findWords s m args below meth c H locs 0 0 (MQ below (va_Qv Q (Bd E lay L A) A) args s 0 0 A) (F0 m 19 ls [])) (hK103 : ∀ (σ : St) (H : Heap) (locs : List Loc) (ls : Array Slot), Kx103 σ → Wo E lay L A s σ H locs → lv_has ls 4 [] → W p l e rmX4_findWords s m args below meth c H locs 0 0 (MQ below (va_Qv Q (Bd E lay L A) A) args s 0 0 A) (F0 m 103 ls [])) (σ : St) (v1 : Int32) (v2 : Int32) (H : Heap) (locs : List Loc) (ls : Array Slot) (hf : fX4_findWords_b58_19 N a0 Q Kh Kx103 σ v1 v2) (hw : Wo E lay L A s σ H locs) (hl : lv_has ls 4 [(0, .ref (lay 4 a0)), (1, .int v1), (2, .int v2)]) : W p l e rmX4_findWords s m args below meth c H locs 0 0 (MQ below (va_Qv Q (Bd E lay L A) A) args s 0 0 A) (F0 m 58 ls []) := by
  have hx := C.1
  have hb := C.2.1
  unfold fX4_findWords_b58_19 at hf
  refine lv_aload_n hx hb dX4_findWords_58 rfl (lv_at hl 0 rfl) ?_
  have hm_11 : (25, a0) ∈ L := hw.2.2.2.1 4 a0 hm0 0 (by decide) (by decide) rfl
  refine x_get (v := .ref (lay 25 a0)) (j := 0) C hw hm0 rfl (by decide) (by decide) rfl q241 dX4_findWords_59 ?_
  refine lv_iload_n hx hb dX4_findWords_62 rfl (lv_at hl 2 rfl) ?_
  refine x_bald C hw hm_11 (by decide) rfl hf.1 dX4_findWords_63 ?_
  replace hf := hf.2
  refine x_runi hw (x_SN (n := 1) (rest := []) C hw (eX10_isLetter hf) q456 q457 q44 q458 rfl rfl (by decide +kernel) ⟨Nat.le_of_ble_eq_true rfl, Nat.le_of_ble_eq_true rfl⟩ rfl hl.1 rfl (Nat.le_of_ble_eq_true rfl) dX4_findWords_64) (fun r13 σ12 H locs hf hw => ?_)
  have hzr13 := hf.2
  replace hf := hf.1
  try dsimp only at hf
  refine lv_istore_n (lv' := [(3, .int r13), (0, .ref (lay 4 a0)), (1, .int v1), (2, .int v2)]) hx hb dX4_findWords_67 rfl hl (by decide) rfl (fun ls hl => ?_)
  refine lv_iload_n hx hb dX4_findWords_68 rfl (lv_at hl 0 rfl) ?_
  refine lv_if_eq (tgt := 95) hx hb dX4_findWords_69 (by decide) (fun c14 => ?_) (fun c14 => ?_)
  · replace hf := hf.1 c14
    exact eX4_findWords_b95_19 C hret hm0 hKh hK103 σ12 v2 r13 _ _ _ hf hw (lv_sub hl [1, 3, 0] rfl)
  · replace hf := hf.2 c14
    refine lv_aload_n hx hb dX4_findWords_72 rfl (lv_at hl 1 rfl) ?_
    refine lv_dup hx hb dX4_findWords_73 rfl ?_
    refine x_get (v := .int (sF σ12 4 a0 5)) (j := 5) C hw hm0 rfl (by decide) (by decide) rfl q251 dX4_findWords_74 ?_
    refine lv_iconst (v := 1) hx hb dX4_findWords_77 (by decide) ?_
    refine lv_iadd hx hb dX4_findWords_78 ?_
    refine x_putI (j := 5) (ty := .int) C hw hm0 rfl (by decide) (by decide) rfl rfl (by decide +kernel) rfl rfl q251 dX4_findWords_79 (fun σ15 H locs eσ15 hw => ?_)
    replace hf := hf σ15 eσ15
    refine lv_iload_n hx hb dX4_findWords_82 rfl (lv_at hl 2 rfl) ?_
    refine lv_if_ne (tgt := 91) hx hb dX4_findWords_83 (by decide) (fun c16 => ?_) (fun c16 => ?_)
    · replace hf := hf.1 c16
      exact eX4_findWords_b91_19 C hret hm0 hKh hK103 σ15 v2 r13 _ _ _ hf hw (lv_sub hl [1, 3, 0] rfl)
    · replace hf := hf.2 c16
      refine lv_aload_n hx hb dX4_findWords_86 rfl (lv_at hl 1 rfl) ?_
      refine lv_iload_n hx hb dX4_findWords_87 rfl (lv_at hl 3 rfl) ?_
      refine x_runv hw (x_V (n := 1) (rest := []) C hw hm0 (by decide) (eX4_beginWord hf hm0) q459 q461 q4 q51 q462 rfl rfl (by decide +kernel) ⟨Nat.le_of_ble_eq_true rfl, Nat.le_of_ble_eq_true rfl⟩ rfl hl.1 rfl (Nat.le_of_ble_eq_true rfl) dX4_findWords_88) (fun σ18 H locs hf hw => ?_)
      try dsimp only at hf
      exact eX4_findWords_b91_19 C hret hm0 hKh hK103 σ18 v2 r13 _ _ _ hf hw (lv_sub hl [1, 3, 0] rfl)
set_option maxHeartbeats 4000000 in
set_option maxRecDepth 100000 in
theorem eX4_findWords_l19 {p : Program} {l : Launch} {e : Env} {s : State} {m : MethodId} {args : Array Value} {below : List Frame} {meth : Method} {c : Code} {E : EC} {lay : Nat → Nat → Nat} {L : List (Nat × Nat)} {A : Nat → Prop} (C : Cx p s m args c meth yX4_findWords.cls cX4_findWords 4 E A) (hret : meth.sig.returnType = none) {N : Nat} {a0 : Nat} {Q : St → Prop} {Kx103 : St → Prop} (hm0 : (4, a0) ∈ L) (hK103 : ∀ (σ : St) (H : Heap) (locs : List Loc) (ls : Array Slot), Kx103 σ → Wo E lay L A s σ H locs → lv_has ls 4 [] → W p l e rmX4_findWords s m args below meth c H locs 0 0 (MQ below (va_Qv Q (Bd E lay L A) A) args s 0 0 A) (F0 m 103 ls [])) : ∀ (n : Nat) (σ : St) (v1 : Int32) (v2 : Int32) (H : Heap) (locs : List Loc) (ls : Array Slot), fX4_findWords_l19 N a0 Q Kx103 n σ v1 v2 → Wo E lay L A s σ H locs → lv_has ls 4 [(0, .ref (lay 4 a0)), (1, .int v1), (2, .int v2)] → W p l e rmX4_findWords s m args below meth c H locs 0 0 (MQ below (va_Qv Q (Bd E lay L A) A) args s 0 0 A) (F0 m 19 ls []) := by
  have hx := C.1
  have hb := C.2.1
  intro n
  induction n with
  | zero => intro σ v1 v2 H locs ls hf; exact hf.elim
  | succ n ih =>
    intro σ v1 v2 H locs ls hf hw hl
    rw [fX4_findWords_l19] at hf
    refine lv_iload_n hx hb dX4_findWords_19 rfl (lv_at hl 2 rfl) ?_
    refine lv_aload_n hx hb dX4_findWords_20 rfl (lv_at hl 0 rfl) ?_
    refine x_get (v := .int (sF σ 4 a0 3)) (j := 3) C hw hm0 rfl (by decide) (by decide) rfl q244 dX4_findWords_21 ?_
    refine lv_icmp_ge (tgt := 103) hx hb dX4_findWords_24 (by decide) (fun c4 => ?_) (fun c4 => ?_)
    · replace hf := hf.1 c4
      exact hK103 σ _ _ _ hf hw (lv_sub hl [] rfl)
    · replace hf := hf.2 c4
      refine lv_iload_n hx hb dX4_findWords_27 rfl (lv_at hl 2 rfl) ?_
      refine lv_aload_n hx hb dX4_findWords_28 rfl (lv_at hl 0 rfl) ?_
      have hm_5 : (25, a0) ∈ L := hw.2.2.2.1 4 a0 hm0 0 (by decide) (by decide) rfl
      refine x_get (v := .ref (lay 25 a0)) (j := 0) C hw hm0 rfl (by decide) (by decide) rfl q241 dX4_findWords_29 ?_
      refine x_alen (v := 200) C hw hm_5 (by decide) (by decide) (by decide) dX4_findWords_32 ?_
      refine lv_icmp_ge (tgt := 103) hx hb dX4_findWords_33 (by decide) (fun c6 => ?_) (fun c6 => ?_)
      · replace hf := hf.1 c6
        exact hK103 σ _ _ _ hf hw (lv_sub hl [] rfl)
      · replace hf := hf.2 c6
        refine lv_aload_n hx hb dX4_findWords_36 rfl (lv_at hl 0 rfl) ?_
        have hm_7 : (25, a0) ∈ L := hw.2.2.2.1 4 a0 hm0 0 (by decide) (by decide) rfl
        refine x_get (v := .ref (lay 25 a0)) (j := 0) C hw hm0 rfl (by decide) (by decide) rfl q241 dX4_findWords_37 ?_
        refine lv_iload_n hx hb dX4_findWords_40 rfl (lv_at hl 2 rfl) ?_
        refine x_bald C hw hm_7 (by decide) rfl hf.1 dX4_findWords_41 ?_
        replace hf := hf.2
        refine x_runi hw (x_SN (n := 1) (rest := []) C hw (eX10_isLetterOrMark hf) q453 q454 q44 q455 rfl rfl (by decide +kernel) ⟨Nat.le_of_ble_eq_true rfl, Nat.le_of_ble_eq_true rfl⟩ rfl hl.1 rfl (Nat.le_of_ble_eq_true rfl) dX4_findWords_42) (fun r9 σ8 H locs hf hw => ?_)
        have hzr9 := hf.2
        replace hf := hf.1
        try dsimp only at hf
        refine lv_if_eq (tgt := 58) hx hb dX4_findWords_45 (by decide) (fun c10 => ?_) (fun c10 => ?_)
        · replace hf := hf.1 c10
          exact eX4_findWords_b58_19 C hret hm0 ih hK103 σ8 v1 v2 _ _ _ hf hw (lv_sub hl [0, 1, 2] rfl)
        · replace hf := hf.2 c10
          refine lv_aload_n hx hb dX4_findWords_48 rfl (lv_at hl 0 rfl) ?_
          refine lv_dup hx hb dX4_findWords_49 rfl ?_
          refine x_get (v := .int (sF σ8 4 a0 6)) (j := 6) C hw hm0 rfl (by decide) (by decide) rfl q253 dX4_findWords_50 ?_
          refine lv_iconst (v := 1) hx hb dX4_findWords_53 (by decide) ?_
          refine lv_iadd hx hb dX4_findWords_54 ?_
          refine x_putI (j := 6) (ty := .int) C hw hm0 rfl (by decide) (by decide) rfl rfl (by decide +kernel) rfl rfl q253 dX4_findWords_55 (fun σ19 H locs eσ19 hw => ?_)
          replace hf := hf σ19 eσ19
          exact eX4_findWords_b58_19 C hret hm0 ih hK103 σ19 v1 v2 _ _ _ hf hw (lv_sub hl [0, 1, 2] rfl)
def fX4_findWords (N : Nat) (σ : St) (a0 : Nat) (Q : St → Prop) : Prop := ∀ σ1 : St, σ1 = setF σ 4 a0 4 (0 : Int32) → ∀ σ2 : St, σ2 = setF σ1 4 a0 5 (0 : Int32) → ∀ σ3 : St, σ3 = setF σ2 4 a0 6 (0 : Int32) → fX4_findWords_l19 N a0 Q (fun (σ20 : St) => Q σ20) N σ3 (0 : Int32) (0 : Int32)
set_option maxHeartbeats 4000000 in
set_option maxRecDepth 100000 in
theorem eX4_findWords {l : Launch} {E : EC} {lay : Nat → Nat → Nat} {L : List (Nat × Nat)} {A : Nat → Prop} {N : Nat} {σ : St} {a0 : Nat} {Q : St → Prop} (hf : fX4_findWords N σ a0 Q) (hm0 : (4, a0) ∈ L) : Met l yX4_findWords (.code yX4_findWords cX4_findWords 4 (none) :: big) rmX4_findWords (va_Pc [.ref (lay 4 a0)] (Bp E lay L A σ)) (va_Qv Q (Bd E lay L A) A) 0 0 A := by
  refine x_met (by decide +kernel) (Nat.le_of_ble_eq_true rfl) ?_
  intro p e s m args below meth c ls C hret hw hl
  have hx := C.1
  have hb := C.2.1
  have hl : lv_has ls 4 [(0, .ref (lay 4 a0))] := hl
  unfold fX4_findWords at hf
  refine lv_aload_n hx hb dX4_findWords_0 rfl (lv_at hl 0 rfl) ?_
  refine lv_iconst (v := 0) hx hb dX4_findWords_1 (by decide) ?_
  refine x_putI (j := 4) (ty := .int) C hw hm0 rfl (by decide) (by decide) rfl rfl (by decide +kernel) rfl rfl q247 dX4_findWords_2 (fun σ1 H locs eσ1 hw => ?_)
  replace hf := hf σ1 eσ1
  refine lv_aload_n hx hb dX4_findWords_5 rfl (lv_at hl 0 rfl) ?_
  refine lv_iconst (v := 0) hx hb dX4_findWords_6 (by decide) ?_
  refine x_putI (j := 5) (ty := .int) C hw hm0 rfl (by decide) (by decide) rfl rfl (by decide +kernel) rfl rfl q251 dX4_findWords_7 (fun σ2 H locs eσ2 hw => ?_)
  replace hf := hf σ2 eσ2
  refine lv_aload_n hx hb dX4_findWords_10 rfl (lv_at hl 0 rfl) ?_
  refine lv_iconst (v := 0) hx hb dX4_findWords_11 (by decide) ?_
  refine x_putI (j := 6) (ty := .int) C hw hm0 rfl (by decide) (by decide) rfl rfl (by decide +kernel) rfl rfl q253 dX4_findWords_12 (fun σ3 H locs eσ3 hw => ?_)
  replace hf := hf σ3 eσ3
  refine lv_iconst (v := 0) hx hb dX4_findWords_15 (by decide) ?_
  refine lv_istore_n (lv' := [(1, .int (0 : Int32)), (0, .ref (lay 4 a0))]) hx hb dX4_findWords_16 rfl hl (by decide) rfl (fun ls hl => ?_)
  refine lv_iconst (v := 0) hx hb dX4_findWords_17 (by decide) ?_
  refine lv_istore_n (lv' := [(2, .int (0 : Int32)), (1, .int (0 : Int32)), (0, .ref (lay 4 a0))]) hx hb dX4_findWords_18 rfl hl (by decide) rfl (fun ls hl => ?_)
  refine eX4_findWords_l19 C hret hm0 ?_ N σ3 (0 : Int32) (0 : Int32) _ _ _ hf hw (lv_sub hl [2, 1, 0] rfl)
  · intro σ20 H locs ls hf hw hl
    exact x_vret C hret hw hf dX4_findWords_103
-- X4_read
abbrev rmX4_read : Room := { frames := 2, cells := 0, slots := 0, locals := 46 }
def fX4_read (N : Nat) (σ : St) (a0 : Nat) (a1 : Nat) (Q : St → Prop) : Prop := ∀ σ2 : St, σ2 = setF σ 4 a0 3 (if (200 : Int32) < (sF σ 5 a1 1) then (200 : Int32) else (sF σ 5 a1 1)) → fX4_cutQuotes N σ2 a0 a1 (fun (σ3 : St) => fX4_findWords N σ3 a0 (fun (σ4 : St) => Q σ4))
set_option maxHeartbeats 4000000 in
set_option maxRecDepth 100000 in
theorem eX4_read {l : Launch} {E : EC} {lay : Nat → Nat → Nat} {L : List (Nat × Nat)} {A : Nat → Prop} {N : Nat} {σ : St} {a0 : Nat} {a1 : Nat} {Q : St → Prop} (hf : fX4_read N σ a0 a1 Q) (hm0 : (4, a0) ∈ L) (hm1 : (5, a1) ∈ L) : Met l yX4_read (.code yX4_read cX4_read 2 (none) :: big) rmX4_read (va_Pc [.ref (lay 4 a0), .ref (lay 5 a1)] (Bp E lay L A σ)) (va_Qv Q (Bd E lay L A) A) 0 0 A := by
  refine x_met (by decide +kernel) (Nat.le_of_ble_eq_true rfl) ?_
  intro p e s m args below meth c ls C hret hw hl
  have hx := C.1
  have hb := C.2.1
  have hl : lv_has ls 2 [(0, .ref (lay 4 a0)), (1, .ref (lay 5 a1))] := hl
  unfold fX4_read at hf
  refine lv_aload_n hx hb dX4_read_0 rfl (lv_at hl 0 rfl) ?_
  refine lv_aload_n hx hb dX4_read_1 rfl (lv_at hl 1 rfl) ?_
  refine x_getN (v := .int (sF σ 5 a1 1)) (j := 1) (host := "WhoseHand") C hw hm1 rfl (by decide) (by decide) rfl q283 dX4_read_2 ?_
  refine lv_aload_n hx hb dX4_read_5 rfl (lv_at hl 0 rfl) ?_
  have hm_1 : (25, a0) ∈ L := hw.2.2.2.1 4 a0 hm0 0 (by decide) (by decide) rfl
  refine x_get (v := .ref (lay 25 a0)) (j := 0) C hw hm0 rfl (by decide) (by decide) rfl q241 dX4_read_6 ?_
  refine x_alen (v := 200) C hw hm_1 (by decide) (by decide) (by decide) dX4_read_9 ?_
  refine va_mmin hx hb (C.2.2.1.trans hl.1.symm) C.2.2.2.1 (C.2.2.2.2.1 _ q438) (C.2.2.2.2.1 _ q439) (C.2.2.2.2.1 _ q56) (C.2.2.2.2.1 _ q440) (Nat.le_of_ble_eq_true rfl) (Nat.le_of_ble_eq_true rfl) (Nat.zero_le _) (Nat.zero_le _) dX4_read_10 ?_
  refine x_putI (j := 3) (ty := .int) C hw hm0 rfl (by decide) (by decide) rfl rfl (by decide +kernel) rfl rfl q244 dX4_read_13 (fun σ2 H locs eσ2 hw => ?_)
  replace hf := hf σ2 eσ2
  refine lv_aload_n hx hb dX4_read_16 rfl (lv_at hl 0 rfl) ?_
  refine lv_aload_n hx hb dX4_read_17 rfl (lv_at hl 1 rfl) ?_
  refine x_runv hw (x_V (n := 1) (rest := []) C hw hm0 (by decide) (eX4_cutQuotes hf hm0 hm1) q441 q443 q2 q51 q444 rfl rfl (by decide +kernel) ⟨Nat.le_of_ble_eq_true rfl, Nat.le_of_ble_eq_true rfl⟩ rfl hl.1 rfl (Nat.le_of_ble_eq_true rfl) dX4_read_18) (fun σ3 H locs hf hw => ?_)
  try dsimp only at hf
  refine lv_aload_n hx hb dX4_read_21 rfl (lv_at hl 0 rfl) ?_
  refine x_runv hw (x_V (n := 0) (rest := []) C hw hm0 (by decide) (eX4_findWords hf hm0) q449 q451 q3 q51 q452 rfl rfl (by decide +kernel) ⟨Nat.le_of_ble_eq_true rfl, Nat.le_of_ble_eq_true rfl⟩ rfl hl.1 rfl (Nat.le_of_ble_eq_true rfl) dX4_read_22) (fun σ4 H locs hf hw => ?_)
  try dsimp only at hf
  exact x_vret C hret hw hf dX4_read_25
-- X5_isMissing
abbrev rmX5_isMissing : Room := { frames := 0, cells := 0, slots := 0, locals := 0 }
def fX5_isMissing (N : Nat) (σ : St) (a0 : Nat) (Q : Int32 → St → Prop) : Prop := ((0 ≤ (sF σ 5 a0 1) → Q (0 : Int32) σ) ∧ (¬ 0 ≤ (sF σ 5 a0 1) → Q (1 : Int32) σ))
set_option maxHeartbeats 4000000 in
set_option maxRecDepth 100000 in
theorem eX5_isMissing {l : Launch} {E : EC} {lay : Nat → Nat → Nat} {L : List (Nat × Nat)} {A : Nat → Prop} {N : Nat} {σ : St} {a0 : Nat} {Q : Int32 → St → Prop} (hf : fX5_isMissing N σ a0 Q) (hm0 : (5, a0) ∈ L) : Met l yX5_isMissing (.code yX5_isMissing cX5_isMissing 1 (some .boolean) :: big) rmX5_isMissing (va_Pc [.ref (lay 5 a0)] (Bp E lay L A σ)) (va_Qi (fun r u => Q r u ∧ narrow .boolean (.int r) = .int r) (Bd E lay L A) A) 0 0 A := by
  refine x_met (by decide +kernel) (Nat.le_of_ble_eq_true rfl) ?_
  intro p e s m args below meth c ls C hret hw hl
  have hx := C.1
  have hb := C.2.1
  have hl : lv_has ls 1 [(0, .ref (lay 5 a0))] := hl
  unfold fX5_isMissing at hf
  refine lv_aload_n hx hb dX5_isMissing_0 rfl (lv_at hl 0 rfl) ?_
  refine x_get (v := .int (sF σ 5 a0 1)) (j := 1) C hw hm0 rfl (by decide) (by decide) rfl q282 dX5_isMissing_1 ?_
  refine lv_if_ge (tgt := 11) hx hb dX5_isMissing_4 (by decide) (fun c1 => ?_) (fun c1 => ?_)
  · replace hf := hf.1 c1
    refine lv_iconst (v := 0) hx hb dX5_isMissing_11 (by decide) ?_
    exact x_zret C hret (by decide) hw ⟨hf, by decide⟩ dX5_isMissing_12
  · replace hf := hf.2 c1
    refine lv_iconst (v := 1) hx hb dX5_isMissing_7 (by decide) ?_
    refine lv_goto (tgt := 12) hx hb dX5_isMissing_8 (by decide) ?_
    exact x_zret C hret (by decide) hw ⟨hf, by decide⟩ dX5_isMissing_12
-- X5_makeBlank
abbrev rmX5_makeBlank : Room := { frames := 0, cells := 0, slots := 0, locals := 0 }
def fX5_makeBlank_l2 (N : Nat) (a0 : Nat) (a1 : Int32) (Q : St → Prop) (Kx30 : St → Prop) : Nat → St → Int32 → Prop
  | 0, _, _ => False
  | n + 1, σ, v2 => ((a1 ≤ v2 → Kx30 σ) ∧ (¬ a1 ≤ v2 → (((200 : Int32) ≤ v2 → Kx30 σ) ∧ (¬ (200 : Int32) ≤ v2 → (vp_in v2 200 ∧ ∀ σ5 : St, σ5 = setA σ 24 a0 (v2).toNatClampNeg (vp_nar .byte (32 : Int32)) → fX5_makeBlank_l2 N a0 a1 Q Kx30 n σ5 (v2 + (1 : Int32)))))))
def fX5_makeBlank_b30 (N : Nat) (a0 : Nat) (a1 : Int32) (Q : St → Prop) (σ : St) : Prop := ∀ σ7 : St, σ7 = setF σ 5 a0 1 a1 → Q σ7
set_option maxHeartbeats 4000000 in
set_option maxRecDepth 100000 in
theorem eX5_makeBlank_l2 {p : Program} {l : Launch} {e : Env} {s : State} {m : MethodId} {args : Array Value} {below : List Frame} {meth : Method} {c : Code} {E : EC} {lay : Nat → Nat → Nat} {L : List (Nat × Nat)} {A : Nat → Prop} (C : Cx p s m args c meth yX5_makeBlank.cls cX5_makeBlank 3 E A) (hret : meth.sig.returnType = none) {N : Nat} {a0 : Nat} {a1 : Int32} {Q : St → Prop} {Kx30 : St → Prop} (hm0 : (5, a0) ∈ L) (hK30 : ∀ (σ : St) (H : Heap) (locs : List Loc) (ls : Array Slot), Kx30 σ → Wo E lay L A s σ H locs → lv_has ls 3 [(0, .ref (lay 5 a0)), (1, .int a1)] → W p l e rmX5_makeBlank s m args below meth c H locs 0 0 (MQ below (va_Qv Q (Bd E lay L A) A) args s 0 0 A) (F0 m 30 ls [])) : ∀ (n : Nat) (σ : St) (v2 : Int32) (H : Heap) (locs : List Loc) (ls : Array Slot), fX5_makeBlank_l2 N a0 a1 Q Kx30 n σ v2 → Wo E lay L A s σ H locs → lv_has ls 3 [(0, .ref (lay 5 a0)), (1, .int a1), (2, .int v2)] → W p l e rmX5_makeBlank s m args below meth c H locs 0 0 (MQ below (va_Qv Q (Bd E lay L A) A) args s 0 0 A) (F0 m 2 ls []) := by
  have hx := C.1
  have hb := C.2.1
  intro n
  induction n with
  | zero => intro σ v2 H locs ls hf; exact hf.elim
  | succ n ih =>
    intro σ v2 H locs ls hf hw hl
    rw [fX5_makeBlank_l2] at hf
    refine lv_iload_n hx hb dX5_makeBlank_2 rfl (lv_at hl 2 rfl) ?_
    refine lv_iload_n hx hb dX5_makeBlank_3 rfl (lv_at hl 1 rfl) ?_
    refine lv_icmp_ge (tgt := 30) hx hb dX5_makeBlank_4 (by decide) (fun c1 => ?_) (fun c1 => ?_)
    · replace hf := hf.1 c1
      exact hK30 σ _ _ _ hf hw (lv_sub hl [0, 1] rfl)
    · replace hf := hf.2 c1
      refine lv_iload_n hx hb dX5_makeBlank_7 rfl (lv_at hl 2 rfl) ?_
      refine lv_aload_n hx hb dX5_makeBlank_8 rfl (lv_at hl 0 rfl) ?_
      have hm_2 : (24, a0) ∈ L := hw.2.2.2.1 5 a0 hm0 0 (by decide) (by decide) rfl
      refine x_get (v := .ref (lay 24 a0)) (j := 0) C hw hm0 rfl (by decide) (by decide) rfl q281 dX5_makeBlank_9 ?_
      refine x_alen (v := 200) C hw hm_2 (by decide) (by decide) (by decide) dX5_makeBlank_12 ?_
      refine lv_icmp_ge (tgt := 30) hx hb dX5_makeBlank_13 (by decide) (fun c3 => ?_) (fun c3 => ?_)
      · replace hf := hf.1 c3
        exact hK30 σ _ _ _ hf hw (lv_sub hl [0, 1] rfl)
      · replace hf := hf.2 c3
        refine lv_aload_n hx hb dX5_makeBlank_16 rfl (lv_at hl 0 rfl) ?_
        have hm_4 : (24, a0) ∈ L := hw.2.2.2.1 5 a0 hm0 0 (by decide) (by decide) rfl
        refine x_get (v := .ref (lay 24 a0)) (j := 0) C hw hm0 rfl (by decide) (by decide) rfl q281 dX5_makeBlank_17 ?_
        refine lv_iload_n hx hb dX5_makeBlank_20 rfl (lv_at hl 2 rfl) ?_
        refine lv_bipush (v := 32) hx hb dX5_makeBlank_21 (by decide) ?_
        refine x_bast C hw hm_4 (by decide) rfl hf.1 dX5_makeBlank_23 (fun σ5 H locs eσ5 hw => ?_)
        replace hf := hf.2 σ5 eσ5
        refine lv_iinc (v := (v2 + (1 : Int32))) (lv' := [(2, .int (v2 + (1 : Int32))), (0, .ref (lay 5 a0)), (1, .int a1)]) hx hb dX5_makeBlank_24 hl (k := 2) rfl (by rfl) (by decide) rfl (fun ls hl => ?_)
        refine lv_goto (tgt := 2) hx hb dX5_makeBlank_27 (by decide) ?_
        exact ih σ5 (v2 + (1 : Int32)) _ _ _ hf hw (lv_sub hl [1, 2, 0] rfl)
set_option maxHeartbeats 4000000 in
set_option maxRecDepth 100000 in
theorem eX5_makeBlank_b30 {p : Program} {l : Launch} {e : Env} {s : State} {m : MethodId} {args : Array Value} {below : List Frame} {meth : Method} {c : Code} {E : EC} {lay : Nat → Nat → Nat} {L : List (Nat × Nat)} {A : Nat → Prop} (C : Cx p s m args c meth yX5_makeBlank.cls cX5_makeBlank 3 E A) (hret : meth.sig.returnType = none) {N : Nat} {a0 : Nat} {a1 : Int32} {Q : St → Prop} (hm0 : (5, a0) ∈ L) (σ : St) (H : Heap) (locs : List Loc) (ls : Array Slot) (hf : fX5_makeBlank_b30 N a0 a1 Q σ) (hw : Wo E lay L A s σ H locs) (hl : lv_has ls 3 [(0, .ref (lay 5 a0)), (1, .int a1)]) : W p l e rmX5_makeBlank s m args below meth c H locs 0 0 (MQ below (va_Qv Q (Bd E lay L A) A) args s 0 0 A) (F0 m 30 ls []) := by
  have hx := C.1
  have hb := C.2.1
  unfold fX5_makeBlank_b30 at hf
  refine lv_aload_n hx hb dX5_makeBlank_30 rfl (lv_at hl 0 rfl) ?_
  refine lv_iload_n hx hb dX5_makeBlank_31 rfl (lv_at hl 1 rfl) ?_
  refine x_putI (j := 1) (ty := .int) C hw hm0 rfl (by decide) (by decide) rfl rfl (by decide +kernel) rfl rfl q282 dX5_makeBlank_32 (fun σ7 H locs eσ7 hw => ?_)
  replace hf := hf σ7 eσ7
  exact x_vret C hret hw hf dX5_makeBlank_35
def fX5_makeBlank (N : Nat) (σ : St) (a0 : Nat) (a1 : Int32) (Q : St → Prop) : Prop := fX5_makeBlank_l2 N a0 a1 Q (fun (σ6 : St) => fX5_makeBlank_b30 N a0 a1 Q σ6) N σ (0 : Int32)
set_option maxHeartbeats 4000000 in
set_option maxRecDepth 100000 in
theorem eX5_makeBlank {l : Launch} {E : EC} {lay : Nat → Nat → Nat} {L : List (Nat × Nat)} {A : Nat → Prop} {N : Nat} {σ : St} {a0 : Nat} {a1 : Int32} {Q : St → Prop} (hf : fX5_makeBlank N σ a0 a1 Q) (hm0 : (5, a0) ∈ L) : Met l yX5_makeBlank (.code yX5_makeBlank cX5_makeBlank 3 (none) :: big) rmX5_makeBlank (va_Pc [.ref (lay 5 a0), .int a1] (Bp E lay L A σ)) (va_Qv Q (Bd E lay L A) A) 0 0 A := by
  refine x_met (by decide +kernel) (Nat.le_of_ble_eq_true rfl) ?_
  intro p e s m args below meth c ls C hret hw hl
  have hx := C.1
  have hb := C.2.1
  have hl : lv_has ls 3 [(0, .ref (lay 5 a0)), (1, .int a1)] := hl
  unfold fX5_makeBlank at hf
  refine lv_iconst (v := 0) hx hb dX5_makeBlank_0 (by decide) ?_
  refine lv_istore_n (lv' := [(2, .int (0 : Int32)), (0, .ref (lay 5 a0)), (1, .int a1)]) hx hb dX5_makeBlank_1 rfl hl (by decide) rfl (fun ls hl => ?_)
  refine eX5_makeBlank_l2 C hret hm0 ?_ N σ (0 : Int32) _ _ _ hf hw (lv_sub hl [1, 2, 0] rfl)
  · intro σ6 H locs ls hf hw hl
    exact eX5_makeBlank_b30 C hret hm0 σ6 _ _ _ hf hw (lv_sub hl [0, 1] rfl)
-- X5_remove
abbrev rmX5_remove : Room := { frames := 0, cells := 0, slots := 0, locals := 0 }
def fX5_remove (N : Nat) (σ : St) (a0 : Nat) (Q : St → Prop) : Prop := ∀ σ1 : St, σ1 = setF σ 5 a0 1 (-1 : Int32) → Q σ1
set_option maxHeartbeats 4000000 in
set_option maxRecDepth 100000 in
theorem eX5_remove {l : Launch} {E : EC} {lay : Nat → Nat → Nat} {L : List (Nat × Nat)} {A : Nat → Prop} {N : Nat} {σ : St} {a0 : Nat} {Q : St → Prop} (hf : fX5_remove N σ a0 Q) (hm0 : (5, a0) ∈ L) : Met l yX5_remove (.code yX5_remove cX5_remove 1 (none) :: big) rmX5_remove (va_Pc [.ref (lay 5 a0)] (Bp E lay L A σ)) (va_Qv Q (Bd E lay L A) A) 0 0 A := by
  refine x_met (by decide +kernel) (Nat.le_of_ble_eq_true rfl) ?_
  intro p e s m args below meth c ls C hret hw hl
  have hx := C.1
  have hb := C.2.1
  have hl : lv_has ls 1 [(0, .ref (lay 5 a0))] := hl
  unfold fX5_remove at hf
  refine lv_aload_n hx hb dX5_remove_0 rfl (lv_at hl 0 rfl) ?_
  refine lv_iconst (v := (-1)) hx hb dX5_remove_1 (by decide) ?_
  refine x_putI (j := 1) (ty := .int) C hw hm0 rfl (by decide) (by decide) rfl rfl (by decide +kernel) rfl rfl q282 dX5_remove_2 (fun σ1 H locs eσ1 hw => ?_)
  replace hf := hf σ1 eσ1
  exact x_vret C hret hw hf dX5_remove_5
-- X5_holds
abbrev rmX5_holds : Room := { frames := 0, cells := 0, slots := 0, locals := 0 }
def fX5_holds (N : Nat) (σ : St) (a0 : Nat) (a1 : Int32) (a2 : Int32) (Q : Int32 → St → Prop) : Prop := ((a1 < 0 → Q (0 : Int32) σ) ∧ (¬ a1 < 0 → ((a2 < 0 → Q (0 : Int32) σ) ∧ (¬ a2 < 0 → ((0 < (lg_cmp (((a1).toInt64) + ((a2).toInt64)) (((sF σ 5 a0 1)).toInt64)) → Q (0 : Int32) σ) ∧ (¬ 0 < (lg_cmp (((a1).toInt64) + ((a2).toInt64)) (((sF σ 5 a0 1)).toInt64)) → Q (1 : Int32) σ))))))
set_option maxHeartbeats 4000000 in
set_option maxRecDepth 100000 in
theorem eX5_holds {l : Launch} {E : EC} {lay : Nat → Nat → Nat} {L : List (Nat × Nat)} {A : Nat → Prop} {N : Nat} {σ : St} {a0 : Nat} {a1 : Int32} {a2 : Int32} {Q : Int32 → St → Prop} (hf : fX5_holds N σ a0 a1 a2 Q) (hm0 : (5, a0) ∈ L) : Met l yX5_holds (.code yX5_holds cX5_holds 3 (some .boolean) :: big) rmX5_holds (va_Pc [.ref (lay 5 a0), .int a1, .int a2] (Bp E lay L A σ)) (va_Qi (fun r u => Q r u ∧ narrow .boolean (.int r) = .int r) (Bd E lay L A) A) 0 0 A := by
  refine x_met (by decide +kernel) (Nat.le_of_ble_eq_true rfl) ?_
  intro p e s m args below meth c ls C hret hw hl
  have hx := C.1
  have hb := C.2.1
  have hl : lv_has ls 3 [(0, .ref (lay 5 a0)), (1, .int a1), (2, .int a2)] := hl
  unfold fX5_holds at hf
  refine lv_iload_n hx hb dX5_holds_0 rfl (lv_at hl 1 rfl) ?_
  refine lv_if_lt (tgt := 26) hx hb dX5_holds_1 (by decide) (fun c1 => ?_) (fun c1 => ?_)
  · replace hf := hf.1 c1
    refine lv_iconst (v := 0) hx hb dX5_holds_26 (by decide) ?_
    exact x_zret C hret (by decide) hw ⟨hf, by decide⟩ dX5_holds_27
  · replace hf := hf.2 c1
    refine lv_iload_n hx hb dX5_holds_4 rfl (lv_at hl 2 rfl) ?_
    refine lv_if_lt (tgt := 26) hx hb dX5_holds_5 (by decide) (fun c2 => ?_) (fun c2 => ?_)
    · replace hf := hf.1 c2
      refine lv_iconst (v := 0) hx hb dX5_holds_26 (by decide) ?_
      exact x_zret C hret (by decide) hw ⟨hf, by decide⟩ dX5_holds_27
    · replace hf := hf.2 c2
      refine lv_iload_n hx hb dX5_holds_8 rfl (lv_at hl 1 rfl) ?_
      refine lv_i2l hx hb dX5_holds_9 rfl ?_
      refine lv_iload_n hx hb dX5_holds_10 rfl (lv_at hl 2 rfl) ?_
      refine lv_i2l hx hb dX5_holds_11 rfl ?_
      refine lv_ladd hx hb dX5_holds_12 ?_
      refine lv_aload_n hx hb dX5_holds_13 rfl (lv_at hl 0 rfl) ?_
      refine x_get (v := .int (sF σ 5 a0 1)) (j := 1) C hw hm0 rfl (by decide) (by decide) rfl q282 dX5_holds_14 ?_
      refine lv_i2l hx hb dX5_holds_17 rfl ?_
      refine W.lcmp hx hb dX5_holds_18 ?_
      refine lv_if_gt (tgt := 26) hx hb dX5_holds_19 (by decide) (fun c3 => ?_) (fun c3 => ?_)
      · replace hf := hf.1 c3
        refine lv_iconst (v := 0) hx hb dX5_holds_26 (by decide) ?_
        exact x_zret C hret (by decide) hw ⟨hf, by decide⟩ dX5_holds_27
      · replace hf := hf.2 c3
        refine lv_iconst (v := 1) hx hb dX5_holds_22 (by decide) ?_
        refine lv_goto (tgt := 27) hx hb dX5_holds_23 (by decide) ?_
        exact x_zret C hret (by decide) hw ⟨hf, by decide⟩ dX5_holds_27
-- X5_put
abbrev rmX5_put : Room := { frames := 0, cells := 0, slots := 0, locals := 0 }
def fX5_put (N : Nat) (σ : St) (a0 : Nat) (a1 : Int32) (a2 : Int32) (Q : St → Prop) : Prop := ((a1 < 0 → Q σ) ∧ (¬ a1 < 0 → (((sF σ 5 a0 1) ≤ a1 → Q σ) ∧ (¬ (sF σ 5 a0 1) ≤ a1 → (((200 : Int32) ≤ a1 → Q σ) ∧ (¬ (200 : Int32) ≤ a1 → (vp_in a1 200 ∧ ∀ σ6 : St, σ6 = setA σ 24 a0 (a1).toNatClampNeg (vp_nar .byte ((a2).toInt8.toInt32)) → Q σ6)))))))
set_option maxHeartbeats 4000000 in
set_option maxRecDepth 100000 in
theorem eX5_put {l : Launch} {E : EC} {lay : Nat → Nat → Nat} {L : List (Nat × Nat)} {A : Nat → Prop} {N : Nat} {σ : St} {a0 : Nat} {a1 : Int32} {a2 : Int32} {Q : St → Prop} (hf : fX5_put N σ a0 a1 a2 Q) (hm0 : (5, a0) ∈ L) : Met l yX5_put (.code yX5_put cX5_put 3 (none) :: big) rmX5_put (va_Pc [.ref (lay 5 a0), .int a1, .int a2] (Bp E lay L A σ)) (va_Qv Q (Bd E lay L A) A) 0 0 A := by
  refine x_met (by decide +kernel) (Nat.le_of_ble_eq_true rfl) ?_
  intro p e s m args below meth c ls C hret hw hl
  have hx := C.1
  have hb := C.2.1
  have hl : lv_has ls 3 [(0, .ref (lay 5 a0)), (1, .int a1), (2, .int a2)] := hl
  unfold fX5_put at hf
  refine lv_iload_n hx hb dX5_put_0 rfl (lv_at hl 1 rfl) ?_
  refine lv_if_lt (tgt := 29) hx hb dX5_put_1 (by decide) (fun c1 => ?_) (fun c1 => ?_)
  · replace hf := hf.1 c1
    exact x_vret C hret hw hf dX5_put_29
  · replace hf := hf.2 c1
    refine lv_iload_n hx hb dX5_put_4 rfl (lv_at hl 1 rfl) ?_
    refine lv_aload_n hx hb dX5_put_5 rfl (lv_at hl 0 rfl) ?_
    refine x_get (v := .int (sF σ 5 a0 1)) (j := 1) C hw hm0 rfl (by decide) (by decide) rfl q282 dX5_put_6 ?_
    refine lv_icmp_ge (tgt := 29) hx hb dX5_put_9 (by decide) (fun c2 => ?_) (fun c2 => ?_)
    · replace hf := hf.1 c2
      exact x_vret C hret hw hf dX5_put_29
    · replace hf := hf.2 c2
      refine lv_iload_n hx hb dX5_put_12 rfl (lv_at hl 1 rfl) ?_
      refine lv_aload_n hx hb dX5_put_13 rfl (lv_at hl 0 rfl) ?_
      have hm_3 : (24, a0) ∈ L := hw.2.2.2.1 5 a0 hm0 0 (by decide) (by decide) rfl
      refine x_get (v := .ref (lay 24 a0)) (j := 0) C hw hm0 rfl (by decide) (by decide) rfl q281 dX5_put_14 ?_
      refine x_alen (v := 200) C hw hm_3 (by decide) (by decide) (by decide) dX5_put_17 ?_
      refine lv_icmp_ge (tgt := 29) hx hb dX5_put_18 (by decide) (fun c4 => ?_) (fun c4 => ?_)
      · replace hf := hf.1 c4
        exact x_vret C hret hw hf dX5_put_29
      · replace hf := hf.2 c4
        refine lv_aload_n hx hb dX5_put_21 rfl (lv_at hl 0 rfl) ?_
        have hm_5 : (24, a0) ∈ L := hw.2.2.2.1 5 a0 hm0 0 (by decide) (by decide) rfl
        refine x_get (v := .ref (lay 24 a0)) (j := 0) C hw hm0 rfl (by decide) (by decide) rfl q281 dX5_put_22 ?_
        refine lv_iload_n hx hb dX5_put_25 rfl (lv_at hl 1 rfl) ?_
        refine lv_iload_n hx hb dX5_put_26 rfl (lv_at hl 2 rfl) ?_
        refine lv_i2b hx hb dX5_put_27 rfl ?_
        refine x_bast C hw hm_5 (by decide) rfl hf.1 dX5_put_28 (fun σ6 H locs eσ6 hw => ?_)
        replace hf := hf.2 σ6 eσ6
        exact x_vret C hret hw hf dX5_put_29
-- X5_digestAfter
abbrev rmX5_digestAfter : Room := { frames := 0, cells := 0, slots := 0, locals := 0 }
def fX5_digestAfter_l15 (N : Nat) (a0 : Nat) (a1 : Int64) (Q : Int64 → St → Prop) (Kx55 : St → Int64 → Prop) : Nat → St → Int64 → Int32 → Prop
  | 0, _, _, _ => False
  | n + 1, σ, v3, v5 => (((sF σ 5 a0 1) ≤ v5 → Kx55 σ v3) ∧ (¬ (sF σ 5 a0 1) ≤ v5 → (((200 : Int32) ≤ v5 → Kx55 σ v3) ∧ (¬ (200 : Int32) ≤ v5 → (vp_in v5 200 ∧ fX5_digestAfter_l15 N a0 a1 Q Kx55 n σ (((31 : Int64) * v3) + (((sA σ 24 a0 (v5).toNatClampNeg)).toInt64)) (v5 + (1 : Int32)))))))
def fX5_digestAfter_b55 (N : Nat) (a0 : Nat) (a1 : Int64) (Q : Int64 → St → Prop) (σ : St) (v3 : Int64) : Prop := Q v3 σ
set_option maxHeartbeats 4000000 in
set_option maxRecDepth 100000 in
theorem eX5_digestAfter_l15 {p : Program} {l : Launch} {e : Env} {s : State} {m : MethodId} {args : Array Value} {below : List Frame} {meth : Method} {c : Code} {E : EC} {lay : Nat → Nat → Nat} {L : List (Nat × Nat)} {A : Nat → Prop} (C : Cx p s m args c meth yX5_digestAfter.cls cX5_digestAfter 6 E A) (hret : meth.sig.returnType = some .long) {N : Nat} {a0 : Nat} {a1 : Int64} {Q : Int64 → St → Prop} {Kx55 : St → Int64 → Prop} (hm0 : (5, a0) ∈ L) (hK55 : ∀ (σ : St) (w3 : Int64) (H : Heap) (locs : List Loc) (ls : Array Slot), Kx55 σ w3 → Wo E lay L A s σ H locs → lv_has ls 6 [(3, .long w3)] → W p l e rmX5_digestAfter s m args below meth c H locs 0 0 (MQ below (va_Ql Q (Bd E lay L A) A) args s 0 0 A) (F0 m 55 ls [])) : ∀ (n : Nat) (σ : St) (v3 : Int64) (v5 : Int32) (H : Heap) (locs : List Loc) (ls : Array Slot), fX5_digestAfter_l15 N a0 a1 Q Kx55 n σ v3 v5 → Wo E lay L A s σ H locs → lv_has ls 6 [(0, .ref (lay 5 a0)), (3, .long v3), (5, .int v5)] → W p l e rmX5_digestAfter s m args below meth c H locs 0 0 (MQ below (va_Ql Q (Bd E lay L A) A) args s 0 0 A) (F0 m 15 ls []) := by
  have hx := C.1
  have hb := C.2.1
  intro n
  induction n with
  | zero => intro σ v3 v5 H locs ls hf; exact hf.elim
  | succ n ih =>
    intro σ v3 v5 H locs ls hf hw hl
    rw [fX5_digestAfter_l15] at hf
    refine lv_iload hx hb dX5_digestAfter_15 (lv_at hl 2 rfl) ?_
    refine lv_aload_n hx hb dX5_digestAfter_17 rfl (lv_at hl 0 rfl) ?_
    refine x_get (v := .int (sF σ 5 a0 1)) (j := 1) C hw hm0 rfl (by decide) (by decide) rfl q282 dX5_digestAfter_18 ?_
    refine lv_icmp_ge (tgt := 55) hx hb dX5_digestAfter_21 (by decide) (fun c1 => ?_) (fun c1 => ?_)
    · replace hf := hf.1 c1
      exact hK55 σ v3 _ _ _ hf hw (lv_sub hl [1] rfl)
    · replace hf := hf.2 c1
      refine lv_iload hx hb dX5_digestAfter_24 (lv_at hl 2 rfl) ?_
      refine lv_aload_n hx hb dX5_digestAfter_26 rfl (lv_at hl 0 rfl) ?_
      have hm_2 : (24, a0) ∈ L := hw.2.2.2.1 5 a0 hm0 0 (by decide) (by decide) rfl
      refine x_get (v := .ref (lay 24 a0)) (j := 0) C hw hm0 rfl (by decide) (by decide) rfl q281 dX5_digestAfter_27 ?_
      refine x_alen (v := 200) C hw hm_2 (by decide) (by decide) (by decide) dX5_digestAfter_30 ?_
      refine lv_icmp_ge (tgt := 55) hx hb dX5_digestAfter_31 (by decide) (fun c3 => ?_) (fun c3 => ?_)
      · replace hf := hf.1 c3
        exact hK55 σ v3 _ _ _ hf hw (lv_sub hl [1] rfl)
      · replace hf := hf.2 c3
        refine lv_ldc2 (v := 31) hx hb C.2.2.2.1 (C.2.2.2.2.1 _ q873) dX5_digestAfter_34 ?_
        refine lv_lload_n hx hb dX5_digestAfter_37 rfl (lv_at hl 1 rfl) ?_
        refine lv_lmul hx hb dX5_digestAfter_38 ?_
        refine lv_aload_n hx hb dX5_digestAfter_39 rfl (lv_at hl 0 rfl) ?_
        have hm_4 : (24, a0) ∈ L := hw.2.2.2.1 5 a0 hm0 0 (by decide) (by decide) rfl
        refine x_get (v := .ref (lay 24 a0)) (j := 0) C hw hm0 rfl (by decide) (by decide) rfl q281 dX5_digestAfter_40 ?_
        refine lv_iload hx hb dX5_digestAfter_43 (lv_at hl 2 rfl) ?_
        refine x_bald C hw hm_4 (by decide) rfl hf.1 dX5_digestAfter_45 ?_
        replace hf := hf.2
        refine lv_i2l hx hb dX5_digestAfter_46 rfl ?_
        refine lv_ladd hx hb dX5_digestAfter_47 ?_
        refine lv_lstore_n (lv' := [(3, .long (((31 : Int64) * v3) + (((sA σ 24 a0 (v5).toNatClampNeg)).toInt64))), (0, .ref (lay 5 a0)), (5, .int v5)]) hx hb dX5_digestAfter_48 rfl hl (by decide) rfl (fun ls hl => ?_)
        refine lv_iinc (v := (v5 + (1 : Int32))) (lv' := [(5, .int (v5 + (1 : Int32))), (3, .long (((31 : Int64) * v3) + (((sA σ 24 a0 (v5).toNatClampNeg)).toInt64))), (0, .ref (lay 5 a0))]) hx hb dX5_digestAfter_49 hl (k := 2) rfl (by rfl) (by decide) rfl (fun ls hl => ?_)
        refine lv_goto (tgt := 15) hx hb dX5_digestAfter_52 (by decide) ?_
        exact ih σ (((31 : Int64) * v3) + (((sA σ 24 a0 (v5).toNatClampNeg)).toInt64)) (v5 + (1 : Int32)) _ _ _ hf hw (lv_sub hl [2, 1, 0] rfl)
set_option maxHeartbeats 4000000 in
set_option maxRecDepth 100000 in
theorem eX5_digestAfter_b55 {p : Program} {l : Launch} {e : Env} {s : State} {m : MethodId} {args : Array Value} {below : List Frame} {meth : Method} {c : Code} {E : EC} {lay : Nat → Nat → Nat} {L : List (Nat × Nat)} {A : Nat → Prop} (C : Cx p s m args c meth yX5_digestAfter.cls cX5_digestAfter 6 E A) (hret : meth.sig.returnType = some .long) {N : Nat} {a0 : Nat} {a1 : Int64} {Q : Int64 → St → Prop} (hm0 : (5, a0) ∈ L) (σ : St) (v3 : Int64) (H : Heap) (locs : List Loc) (ls : Array Slot) (hf : fX5_digestAfter_b55 N a0 a1 Q σ v3) (hw : Wo E lay L A s σ H locs) (hl : lv_has ls 6 [(3, .long v3)]) : W p l e rmX5_digestAfter s m args below meth c H locs 0 0 (MQ below (va_Ql Q (Bd E lay L A) A) args s 0 0 A) (F0 m 55 ls []) := by
  have hx := C.1
  have hb := C.2.1
  unfold fX5_digestAfter_b55 at hf
  refine lv_lload_n hx hb dX5_digestAfter_55 rfl (lv_at hl 0 rfl) ?_
  exact x_lret C hret hw hf dX5_digestAfter_56
def fX5_digestAfter (N : Nat) (σ : St) (a0 : Nat) (a1 : Int64) (Q : Int64 → St → Prop) : Prop := fX5_digestAfter_l15 N a0 a1 Q (fun (σ5 : St) (u55_3 : Int64) => fX5_digestAfter_b55 N a0 a1 Q σ5 u55_3) N σ (((31 : Int64) * a1) + (((sF σ 5 a0 1)).toInt64)) (0 : Int32)
set_option maxHeartbeats 4000000 in
set_option maxRecDepth 100000 in
theorem eX5_digestAfter {l : Launch} {E : EC} {lay : Nat → Nat → Nat} {L : List (Nat × Nat)} {A : Nat → Prop} {N : Nat} {σ : St} {a0 : Nat} {a1 : Int64} {Q : Int64 → St → Prop} (hf : fX5_digestAfter N σ a0 a1 Q) (hm0 : (5, a0) ∈ L) : Met l yX5_digestAfter (.code yX5_digestAfter cX5_digestAfter 6 (some .long) :: big) rmX5_digestAfter (va_Pc [.ref (lay 5 a0), .long a1] (Bp E lay L A σ)) (va_Ql Q (Bd E lay L A) A) 0 0 A := by
  refine x_met (by decide +kernel) (Nat.le_of_ble_eq_true rfl) ?_
  intro p e s m args below meth c ls C hret hw hl
  have hx := C.1
  have hb := C.2.1
  have hl : lv_has ls 6 [(0, .ref (lay 5 a0)), (1, .long a1)] := hl
  unfold fX5_digestAfter at hf
  refine lv_ldc2 (v := 31) hx hb C.2.2.2.1 (C.2.2.2.2.1 _ q873) dX5_digestAfter_0 ?_
  refine lv_lload_n hx hb dX5_digestAfter_3 rfl (lv_at hl 1 rfl) ?_
  refine lv_lmul hx hb dX5_digestAfter_4 ?_
  refine lv_aload_n hx hb dX5_digestAfter_5 rfl (lv_at hl 0 rfl) ?_
  refine x_get (v := .int (sF σ 5 a0 1)) (j := 1) C hw hm0 rfl (by decide) (by decide) rfl q282 dX5_digestAfter_6 ?_
  refine lv_i2l hx hb dX5_digestAfter_9 rfl ?_
  refine lv_ladd hx hb dX5_digestAfter_10 ?_
  refine lv_lstore_n (lv' := [(3, .long (((31 : Int64) * a1) + (((sF σ 5 a0 1)).toInt64))), (0, .ref (lay 5 a0)), (1, .long a1)]) hx hb dX5_digestAfter_11 rfl hl (by decide) rfl (fun ls hl => ?_)
  refine lv_iconst (v := 0) hx hb dX5_digestAfter_12 (by decide) ?_
  refine lv_istore (lv' := [(5, .int (0 : Int32)), (3, .long (((31 : Int64) * a1) + (((sF σ 5 a0 1)).toInt64))), (0, .ref (lay 5 a0)), (1, .long a1)]) hx hb dX5_digestAfter_13 hl (by decide) rfl (fun ls hl => ?_)
  refine eX5_digestAfter_l15 C hret hm0 ?_ N σ (((31 : Int64) * a1) + (((sF σ 5 a0 1)).toInt64)) (0 : Int32) _ _ _ hf hw (lv_sub hl [2, 1, 0] rfl)
  · intro σ5 u55_3 H locs ls hf hw hl
    exact eX5_digestAfter_b55 C hret hm0 σ5 u55_3 _ _ _ hf hw (lv_sub hl [0] rfl)
-- X6_clear
abbrev rmX6_clear : Room := { frames := 0, cells := 0, slots := 0, locals := 0 }
def fX6_clear (N : Nat) (σ : St) (Q : St → Prop) : Prop := ∀ σ1 : St, σ1 = setF σ 6 0 5 (0 : Int32) → ∀ σ2 : St, σ2 = setF σ1 6 0 7 (0 : Int32) → ∀ σ3 : St, σ3 = setF σ2 6 0 8 (0 : Int32) → Q σ3
set_option maxHeartbeats 4000000 in
set_option maxRecDepth 100000 in
theorem eX6_clear {l : Launch} {E : EC} {lay : Nat → Nat → Nat} {L : List (Nat × Nat)} {A : Nat → Prop} {N : Nat} {σ : St} {Q : St → Prop} (hf : fX6_clear N σ Q) (hm0 : (6, 0) ∈ L) : Met l yX6_clear (.code yX6_clear cX6_clear 1 (none) :: big) rmX6_clear (va_Pc [.ref (lay 6 0)] (Bp E lay L A σ)) (va_Qv Q (Bd E lay L A) A) 0 0 A := by
  refine x_met (by decide +kernel) (Nat.le_of_ble_eq_true rfl) ?_
  intro p e s m args below meth c ls C hret hw hl
  have hx := C.1
  have hb := C.2.1
  have hl : lv_has ls 1 [(0, .ref (lay 6 0))] := hl
  unfold fX6_clear at hf
  refine lv_aload_n hx hb dX6_clear_0 rfl (lv_at hl 0 rfl) ?_
  refine lv_iconst (v := 0) hx hb dX6_clear_1 (by decide) ?_
  refine x_putI (j := 5) (ty := .int) C hw hm0 rfl (by decide) (by decide) rfl rfl (by decide +kernel) rfl rfl q208 dX6_clear_2 (fun σ1 H locs eσ1 hw => ?_)
  replace hf := hf σ1 eσ1
  refine lv_aload_n hx hb dX6_clear_5 rfl (lv_at hl 0 rfl) ?_
  refine lv_iconst (v := 0) hx hb dX6_clear_6 (by decide) ?_
  refine x_putI (j := 7) (ty := .int) C hw hm0 rfl (by decide) (by decide) rfl rfl (by decide +kernel) rfl rfl q210 dX6_clear_7 (fun σ2 H locs eσ2 hw => ?_)
  replace hf := hf σ2 eσ2
  refine lv_aload_n hx hb dX6_clear_10 rfl (lv_at hl 0 rfl) ?_
  refine lv_iconst (v := 0) hx hb dX6_clear_11 (by decide) ?_
  refine x_putI (j := 8) (ty := .int) C hw hm0 rfl (by decide) (by decide) rfl rfl (by decide +kernel) rfl rfl q211 dX6_clear_12 (fun σ3 H locs eσ3 hw => ?_)
  replace hf := hf σ3 eσ3
  exact x_vret C hret hw hf dX6_clear_15
-- X6_add
abbrev rmX6_add : Room := { frames := 0, cells := 0, slots := 0, locals := 0 }
def fX6_add (N : Nat) (σ : St) (a1 : Int32) (a2 : Int32) (Q : St → Prop) : Prop := (((sF σ 6 0 5) < (14 : Int32) → (vp_in (sF σ 6 0 5) 14 ∧ ∀ σ3 : St, σ3 = setA σ 45 0 ((sF σ 6 0 5)).toNatClampNeg a1 → (vp_in (sF σ3 6 0 5) 14 ∧ ∀ σ5 : St, σ5 = setA σ3 46 0 ((sF σ3 6 0 5)).toNatClampNeg a2 → ∀ σ6 : St, σ6 = setF σ5 6 0 7 ((sF σ5 6 0 7) + a1) → ∀ σ7 : St, σ7 = setF σ6 6 0 8 ((sF σ6 6 0 8) + a2) → ∀ σ8 : St, σ8 = setF σ7 6 0 5 ((sF σ7 6 0 5) + (1 : Int32)) → Q σ8))) ∧ (¬ (sF σ 6 0 5) < (14 : Int32) → Q σ))
set_option maxHeartbeats 4000000 in
set_option maxRecDepth 100000 in
theorem eX6_add {l : Launch} {E : EC} {lay : Nat → Nat → Nat} {L : List (Nat × Nat)} {A : Nat → Prop} {N : Nat} {σ : St} {a1 : Int32} {a2 : Int32} {Q : St → Prop} (hf : fX6_add N σ a1 a2 Q) (hm0 : (6, 0) ∈ L) : Met l yX6_add (.code yX6_add cX6_add 3 (none) :: big) rmX6_add (va_Pc [.ref (lay 6 0), .int a1, .int a2] (Bp E lay L A σ)) (va_Qv Q (Bd E lay L A) A) 0 0 A := by
  refine x_met (by decide +kernel) (Nat.le_of_ble_eq_true rfl) ?_
  intro p e s m args below meth c ls C hret hw hl
  have hx := C.1
  have hb := C.2.1
  have hl : lv_has ls 3 [(0, .ref (lay 6 0)), (1, .int a1), (2, .int a2)] := hl
  unfold fX6_add at hf
  refine lv_aload_n hx hb dX6_add_0 rfl (lv_at hl 0 rfl) ?_
  refine x_get (v := .int (sF σ 6 0 5)) (j := 5) C hw hm0 rfl (by decide) (by decide) rfl q208 dX6_add_1 ?_
  refine lv_bipush (v := 14) hx hb dX6_add_4 (by decide) ?_
  refine lv_icmp_lt (tgt := 10) hx hb dX6_add_6 (by decide) (fun c1 => ?_) (fun c1 => ?_)
  · replace hf := hf.1 c1
    refine lv_aload_n hx hb dX6_add_10 rfl (lv_at hl 0 rfl) ?_
    have hm_2 : (45, 0) ∈ L := hw.2.2.2.1 6 0 hm0 0 (by decide) (by decide) rfl
    refine x_get (v := .ref (lay 45 0)) (j := 0) C hw hm0 rfl (by decide) (by decide) rfl q203 dX6_add_11 ?_
    refine lv_aload_n hx hb dX6_add_14 rfl (lv_at hl 0 rfl) ?_
    refine x_get (v := .int (sF σ 6 0 5)) (j := 5) C hw hm0 rfl (by decide) (by decide) rfl q208 dX6_add_15 ?_
    refine lv_iload_n hx hb dX6_add_18 rfl (lv_at hl 1 rfl) ?_
    refine x_iast C hw hm_2 (by decide) rfl hf.1 dX6_add_19 (fun σ3 H locs eσ3 hw => ?_)
    replace hf := hf.2 σ3 eσ3
    refine lv_aload_n hx hb dX6_add_20 rfl (lv_at hl 0 rfl) ?_
    have hm_4 : (46, 0) ∈ L := hw.2.2.2.1 6 0 hm0 1 (by decide) (by decide) rfl
    refine x_get (v := .ref (lay 46 0)) (j := 1) C hw hm0 rfl (by decide) (by decide) rfl q204 dX6_add_21 ?_
    refine lv_aload_n hx hb dX6_add_24 rfl (lv_at hl 0 rfl) ?_
    refine x_get (v := .int (sF σ3 6 0 5)) (j := 5) C hw hm0 rfl (by decide) (by decide) rfl q208 dX6_add_25 ?_
    refine lv_iload_n hx hb dX6_add_28 rfl (lv_at hl 2 rfl) ?_
    refine x_iast C hw hm_4 (by decide) rfl hf.1 dX6_add_29 (fun σ5 H locs eσ5 hw => ?_)
    replace hf := hf.2 σ5 eσ5
    refine lv_aload_n hx hb dX6_add_30 rfl (lv_at hl 0 rfl) ?_
    refine lv_dup hx hb dX6_add_31 rfl ?_
    refine x_get (v := .int (sF σ5 6 0 7)) (j := 7) C hw hm0 rfl (by decide) (by decide) rfl q210 dX6_add_32 ?_
    refine lv_iload_n hx hb dX6_add_35 rfl (lv_at hl 1 rfl) ?_
    refine lv_iadd hx hb dX6_add_36 ?_
    refine x_putI (j := 7) (ty := .int) C hw hm0 rfl (by decide) (by decide) rfl rfl (by decide +kernel) rfl rfl q210 dX6_add_37 (fun σ6 H locs eσ6 hw => ?_)
    replace hf := hf σ6 eσ6
    refine lv_aload_n hx hb dX6_add_40 rfl (lv_at hl 0 rfl) ?_
    refine lv_dup hx hb dX6_add_41 rfl ?_
    refine x_get (v := .int (sF σ6 6 0 8)) (j := 8) C hw hm0 rfl (by decide) (by decide) rfl q211 dX6_add_42 ?_
    refine lv_iload_n hx hb dX6_add_45 rfl (lv_at hl 2 rfl) ?_
    refine lv_iadd hx hb dX6_add_46 ?_
    refine x_putI (j := 8) (ty := .int) C hw hm0 rfl (by decide) (by decide) rfl rfl (by decide +kernel) rfl rfl q211 dX6_add_47 (fun σ7 H locs eσ7 hw => ?_)
    replace hf := hf σ7 eσ7
    refine lv_aload_n hx hb dX6_add_50 rfl (lv_at hl 0 rfl) ?_
    refine lv_dup hx hb dX6_add_51 rfl ?_
    refine x_get (v := .int (sF σ7 6 0 5)) (j := 5) C hw hm0 rfl (by decide) (by decide) rfl q208 dX6_add_52 ?_
    refine lv_iconst (v := 1) hx hb dX6_add_55 (by decide) ?_
    refine lv_iadd hx hb dX6_add_56 ?_
    refine x_putI (j := 5) (ty := .int) C hw hm0 rfl (by decide) (by decide) rfl rfl (by decide +kernel) rfl rfl q208 dX6_add_57 (fun σ8 H locs eσ8 hw => ?_)
    replace hf := hf σ8 eσ8
    exact x_vret C hret hw hf dX6_add_60
  · replace hf := hf.2 c1
    exact x_vret C hret hw hf dX6_add_9
