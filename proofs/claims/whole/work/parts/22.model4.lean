-- X11_joinTwo
abbrev rmX11_joinTwo : Room := { frames := 3, cells := 0, slots := 0, locals := 71 }
def fX11_joinTwo_b98_26 (N : Nat) (Q : St → Prop) (Kh : St → Int32 → Int32 → Int32 → Int32 → Int32 → Prop) (Kx104 : St → Int32 → Int32 → Int32 → Int32 → Prop) (σ : St) (v1 : Int32) (v2 : Int32) (v3 : Int32) (v4 : Int32) (v5 : Int32) : Prop := Kh σ v1 v2 v3 v4 (v5 + (1 : Int32))
def fX11_joinTwo_b89_26 (N : Nat) (Q : St → Prop) (Kh : St → Int32 → Int32 → Int32 → Int32 → Int32 → Prop) (Kx104 : St → Int32 → Int32 → Int32 → Int32 → Prop) (σ : St) (v4 : Int32) (v5 : Int32) (v6 : Int32) : Prop := fX11_joinTwo_b98_26 N Q Kh Kx104 σ v4 v5 v6 v4 v5
def fX11_joinTwo_l26 (N : Nat) (Q : St → Prop) (Kx104 : St → Int32 → Int32 → Int32 → Int32 → Prop) : Nat → St → Int32 → Int32 → Int32 → Int32 → Int32 → Prop
  | 0, _, _, _, _, _, _ => False
  | n + 1, σ, v1, v2, v3, v4, v5 => (((sF σ 11 0 6) ≤ v5 → Kx104 σ v1 v2 v3 v4) ∧ (¬ (sF σ 11 0 6) ≤ v5 → (vp_in v4 14 ∧ (((sA σ 91 0 (v4).toNatClampNeg) = 0 → fX11_joinTwo_b98_26 N Q (fun (σ : St) (w1 : Int32) (w2 : Int32) (w3 : Int32) (w4 : Int32) (w5 : Int32) => fX11_joinTwo_l26 N Q Kx104 n σ w1 w2 w3 w4 w5) Kx104 σ v1 v2 v3 v4 v5) ∧ (¬ (sA σ 91 0 (v4).toNatClampNeg) = 0 → (vp_in v5 14 ∧ (((sA σ 91 0 (v5).toNatClampNeg) = 0 → fX11_joinTwo_b98_26 N Q (fun (σ : St) (w1 : Int32) (w2 : Int32) (w3 : Int32) (w4 : Int32) (w5 : Int32) => fX11_joinTwo_l26 N Q Kx104 n σ w1 w2 w3 w4 w5) Kx104 σ v1 v2 v3 v4 v5) ∧ (¬ (sA σ 91 0 (v5).toNatClampNeg) = 0 → (vp_in v4 14 ∧ (vp_in v5 14 ∧ fX11_allFeatures N σ (fun (r10 : Int32) (σ9 : St) => fX11_farOf N σ9 (sA σ 91 0 (v4).toNatClampNeg) (sA σ 91 0 (v5).toNatClampNeg) r10 (fun (r12 : Int32) (σ11 : St) => ((v1 < 0 → fX11_joinTwo_b89_26 N Q (fun (σ : St) (w1 : Int32) (w2 : Int32) (w3 : Int32) (w4 : Int32) (w5 : Int32) => fX11_joinTwo_l26 N Q Kx104 n σ w1 w2 w3 w4 w5) Kx104 σ11 v4 v5 r12) ∧ (¬ v1 < 0 → ((v3 ≤ r12 → fX11_joinTwo_b98_26 N Q (fun (σ : St) (w1 : Int32) (w2 : Int32) (w3 : Int32) (w4 : Int32) (w5 : Int32) => fX11_joinTwo_l26 N Q Kx104 n σ w1 w2 w3 w4 w5) Kx104 σ11 v1 v2 v3 v4 v5) ∧ (¬ v3 ≤ r12 → fX11_joinTwo_b89_26 N Q (fun (σ : St) (w1 : Int32) (w2 : Int32) (w3 : Int32) (w4 : Int32) (w5 : Int32) => fX11_joinTwo_l26 N Q Kx104 n σ w1 w2 w3 w4 w5) Kx104 σ11 v4 v5 r12))))))))))))))))
def fX11_joinTwo_l11 (N : Nat) (Q : St → Prop) (Kx110 : St → Int32 → Int32 → Int32 → Prop) : Nat → St → Int32 → Int32 → Int32 → Int32 → Prop
  | 0, _, _, _, _, _ => False
  | n + 1, σ, v1, v2, v3, v4 => (((sF σ 11 0 6) ≤ v4 → Kx110 σ v1 v2 v3) ∧ (¬ (sF σ 11 0 6) ≤ v4 → fX11_joinTwo_l26 N Q (fun (σ15 : St) (u104_1 : Int32) (u104_2 : Int32) (u104_3 : Int32) (u104_4 : Int32) => fX11_joinTwo_l11 N Q Kx110 n σ15 u104_1 u104_2 u104_3 (u104_4 + (1 : Int32))) N σ v1 v2 v3 v4 (v4 + (1 : Int32))))
set_option maxHeartbeats 4000000 in
set_option maxRecDepth 100000 in
theorem eX11_joinTwo_b98_26 {p : Program} {l : Launch} {e : Env} {s : State} {m : MethodId} {args : Array Value} {below : List Frame} {meth : Method} {c : Code} {E : EC} {lay : Nat → Nat → Nat} {L : List (Nat × Nat)} {A : Nat → Prop} (C : Cx p s m args c meth yX11_joinTwo.cls cX11_joinTwo 7 E A) (hret : meth.sig.returnType = none) {N : Nat} {Q : St → Prop} {Kh : St → Int32 → Int32 → Int32 → Int32 → Int32 → Prop} {Kx104 : St → Int32 → Int32 → Int32 → Int32 → Prop} (hm0 : (11, 0) ∈ L) (hKh : ∀ (σ : St) (w1 : Int32) (w2 : Int32) (w3 : Int32) (w4 : Int32) (w5 : Int32) (H : Heap) (locs : List Loc) (ls : Array Slot), Kh σ w1 w2 w3 w4 w5 → Wo E lay L A s σ H locs → lv_has ls 7 [(0, .ref (lay 11 0)), (1, .int w1), (2, .int w2), (3, .int w3), (4, .int w4), (5, .int w5)] → W p l e rmX11_joinTwo s m args below meth c H locs 0 0 (MQ below (va_Qv Q (Bd E lay L A) A) args s 0 0 A) (F0 m 26 ls [])) (hK104 : ∀ (σ : St) (w1 : Int32) (w2 : Int32) (w3 : Int32) (w4 : Int32) (H : Heap) (locs : List Loc) (ls : Array Slot), Kx104 σ w1 w2 w3 w4 → Wo E lay L A s σ H locs → lv_has ls 7 [(0, .ref (lay 11 0)), (1, .int w1), (2, .int w2), (3, .int w3), (4, .int w4)] → W p l e rmX11_joinTwo s m args below meth c H locs 0 0 (MQ below (va_Qv Q (Bd E lay L A) A) args s 0 0 A) (F0 m 104 ls [])) (σ : St) (v1 : Int32) (v2 : Int32) (v3 : Int32) (v4 : Int32) (v5 : Int32) (H : Heap) (locs : List Loc) (ls : Array Slot) (hf : fX11_joinTwo_b98_26 N Q Kh Kx104 σ v1 v2 v3 v4 v5) (hw : Wo E lay L A s σ H locs) (hl : lv_has ls 7 [(0, .ref (lay 11 0)), (1, .int v1), (2, .int v2), (3, .int v3), (4, .int v4), (5, .int v5)]) : W p l e rmX11_joinTwo s m args below meth c H locs 0 0 (MQ below (va_Qv Q (Bd E lay L A) A) args s 0 0 A) (F0 m 98 ls []) := by
  have hx := C.1
  have hb := C.2.1
  unfold fX11_joinTwo_b98_26 at hf
  refine lv_iinc (v := (v5 + (1 : Int32))) (lv' := [(5, .int (v5 + (1 : Int32))), (0, .ref (lay 11 0)), (1, .int v1), (2, .int v2), (3, .int v3), (4, .int v4)]) hx hb dX11_joinTwo_98 hl (k := 5) rfl (by rfl) (by decide) rfl (fun ls hl => ?_)
  refine lv_goto (tgt := 26) hx hb dX11_joinTwo_101 (by decide) ?_
  exact hKh σ v1 v2 v3 v4 (v5 + (1 : Int32)) _ _ _ hf hw (lv_sub hl [1, 2, 3, 4, 5, 0] rfl)
set_option maxHeartbeats 4000000 in
set_option maxRecDepth 100000 in
theorem eX11_joinTwo_b89_26 {p : Program} {l : Launch} {e : Env} {s : State} {m : MethodId} {args : Array Value} {below : List Frame} {meth : Method} {c : Code} {E : EC} {lay : Nat → Nat → Nat} {L : List (Nat × Nat)} {A : Nat → Prop} (C : Cx p s m args c meth yX11_joinTwo.cls cX11_joinTwo 7 E A) (hret : meth.sig.returnType = none) {N : Nat} {Q : St → Prop} {Kh : St → Int32 → Int32 → Int32 → Int32 → Int32 → Prop} {Kx104 : St → Int32 → Int32 → Int32 → Int32 → Prop} (hm0 : (11, 0) ∈ L) (hKh : ∀ (σ : St) (w1 : Int32) (w2 : Int32) (w3 : Int32) (w4 : Int32) (w5 : Int32) (H : Heap) (locs : List Loc) (ls : Array Slot), Kh σ w1 w2 w3 w4 w5 → Wo E lay L A s σ H locs → lv_has ls 7 [(0, .ref (lay 11 0)), (1, .int w1), (2, .int w2), (3, .int w3), (4, .int w4), (5, .int w5)] → W p l e rmX11_joinTwo s m args below meth c H locs 0 0 (MQ below (va_Qv Q (Bd E lay L A) A) args s 0 0 A) (F0 m 26 ls [])) (hK104 : ∀ (σ : St) (w1 : Int32) (w2 : Int32) (w3 : Int32) (w4 : Int32) (H : Heap) (locs : List Loc) (ls : Array Slot), Kx104 σ w1 w2 w3 w4 → Wo E lay L A s σ H locs → lv_has ls 7 [(0, .ref (lay 11 0)), (1, .int w1), (2, .int w2), (3, .int w3), (4, .int w4)] → W p l e rmX11_joinTwo s m args below meth c H locs 0 0 (MQ below (va_Qv Q (Bd E lay L A) A) args s 0 0 A) (F0 m 104 ls [])) (σ : St) (v4 : Int32) (v5 : Int32) (v6 : Int32) (H : Heap) (locs : List Loc) (ls : Array Slot) (hf : fX11_joinTwo_b89_26 N Q Kh Kx104 σ v4 v5 v6) (hw : Wo E lay L A s σ H locs) (hl : lv_has ls 7 [(0, .ref (lay 11 0)), (4, .int v4), (5, .int v5), (6, .int v6)]) : W p l e rmX11_joinTwo s m args below meth c H locs 0 0 (MQ below (va_Qv Q (Bd E lay L A) A) args s 0 0 A) (F0 m 89 ls []) := by
  have hx := C.1
  have hb := C.2.1
  unfold fX11_joinTwo_b89_26 at hf
  refine lv_iload hx hb dX11_joinTwo_89 (lv_at hl 1 rfl) ?_
  refine lv_istore_n (lv' := [(1, .int v4), (0, .ref (lay 11 0)), (4, .int v4), (5, .int v5), (6, .int v6)]) hx hb dX11_joinTwo_91 rfl hl (by decide) rfl (fun ls hl => ?_)
  refine lv_iload hx hb dX11_joinTwo_92 (lv_at hl 3 rfl) ?_
  refine lv_istore_n (lv' := [(2, .int v5), (1, .int v4), (0, .ref (lay 11 0)), (4, .int v4), (5, .int v5), (6, .int v6)]) hx hb dX11_joinTwo_94 rfl hl (by decide) rfl (fun ls hl => ?_)
  refine lv_iload hx hb dX11_joinTwo_95 (lv_at hl 5 rfl) ?_
  refine lv_istore_n (lv' := [(3, .int v6), (2, .int v5), (1, .int v4), (0, .ref (lay 11 0)), (4, .int v4), (5, .int v5), (6, .int v6)]) hx hb dX11_joinTwo_97 rfl hl (by decide) rfl (fun ls hl => ?_)
  exact eX11_joinTwo_b98_26 C hret hm0 hKh hK104 σ v4 v5 v6 v4 v5 _ _ _ hf hw (lv_sub hl [3, 2, 1, 0, 4, 5] rfl)
set_option maxHeartbeats 4000000 in
set_option maxRecDepth 100000 in
theorem eX11_joinTwo_l26 {p : Program} {l : Launch} {e : Env} {s : State} {m : MethodId} {args : Array Value} {below : List Frame} {meth : Method} {c : Code} {E : EC} {lay : Nat → Nat → Nat} {L : List (Nat × Nat)} {A : Nat → Prop} (C : Cx p s m args c meth yX11_joinTwo.cls cX11_joinTwo 7 E A) (hret : meth.sig.returnType = none) {N : Nat} {Q : St → Prop} {Kx104 : St → Int32 → Int32 → Int32 → Int32 → Prop} (hm0 : (11, 0) ∈ L) (hK104 : ∀ (σ : St) (w1 : Int32) (w2 : Int32) (w3 : Int32) (w4 : Int32) (H : Heap) (locs : List Loc) (ls : Array Slot), Kx104 σ w1 w2 w3 w4 → Wo E lay L A s σ H locs → lv_has ls 7 [(0, .ref (lay 11 0)), (1, .int w1), (2, .int w2), (3, .int w3), (4, .int w4)] → W p l e rmX11_joinTwo s m args below meth c H locs 0 0 (MQ below (va_Qv Q (Bd E lay L A) A) args s 0 0 A) (F0 m 104 ls [])) : ∀ (n : Nat) (σ : St) (v1 : Int32) (v2 : Int32) (v3 : Int32) (v4 : Int32) (v5 : Int32) (H : Heap) (locs : List Loc) (ls : Array Slot), fX11_joinTwo_l26 N Q Kx104 n σ v1 v2 v3 v4 v5 → Wo E lay L A s σ H locs → lv_has ls 7 [(0, .ref (lay 11 0)), (1, .int v1), (2, .int v2), (3, .int v3), (4, .int v4), (5, .int v5)] → W p l e rmX11_joinTwo s m args below meth c H locs 0 0 (MQ below (va_Qv Q (Bd E lay L A) A) args s 0 0 A) (F0 m 26 ls []) := by
  have hx := C.1
  have hb := C.2.1
  intro n
  induction n with
  | zero => intro σ v1 v2 v3 v4 v5 H locs ls hf; exact hf.elim
  | succ n ih =>
    intro σ v1 v2 v3 v4 v5 H locs ls hf hw hl
    rw [fX11_joinTwo_l26] at hf
    refine lv_iload hx hb dX11_joinTwo_26 (lv_at hl 5 rfl) ?_
    refine lv_aload_n hx hb dX11_joinTwo_28 rfl (lv_at hl 0 rfl) ?_
    refine x_get (v := .int (sF σ 11 0 6)) (j := 6) C hw hm0 rfl (by decide) (by decide) rfl q886 dX11_joinTwo_29 ?_
    refine lv_icmp_ge (tgt := 104) hx hb dX11_joinTwo_32 (by decide) (fun c2 => ?_) (fun c2 => ?_)
    · replace hf := hf.1 c2
      exact hK104 σ v1 v2 v3 v4 _ _ _ hf hw (lv_sub hl [0, 1, 2, 3, 4] rfl)
    · replace hf := hf.2 c2
      refine lv_aload_n hx hb dX11_joinTwo_35 rfl (lv_at hl 0 rfl) ?_
      have hm_3 : (91, 0) ∈ L := hw.2.2.2.1 11 0 hm0 31 (by decide) (by decide) rfl
      refine x_get (v := .ref (lay 91 0)) (j := 31) C hw hm0 rfl (by decide) (by decide) rfl q911 dX11_joinTwo_36 ?_
      refine lv_iload hx hb dX11_joinTwo_39 (lv_at hl 4 rfl) ?_
      refine x_iald C hw hm_3 (by decide) rfl hf.1 dX11_joinTwo_41 ?_
      replace hf := hf.2
      refine lv_if_eq (tgt := 98) hx hb dX11_joinTwo_42 (by decide) (fun c4 => ?_) (fun c4 => ?_)
      · replace hf := hf.1 c4
        exact eX11_joinTwo_b98_26 C hret hm0 ih hK104 σ v1 v2 v3 v4 v5 _ _ _ hf hw (lv_sub hl [0, 1, 2, 3, 4, 5] rfl)
      · replace hf := hf.2 c4
        refine lv_aload_n hx hb dX11_joinTwo_45 rfl (lv_at hl 0 rfl) ?_
        have hm_5 : (91, 0) ∈ L := hw.2.2.2.1 11 0 hm0 31 (by decide) (by decide) rfl
        refine x_get (v := .ref (lay 91 0)) (j := 31) C hw hm0 rfl (by decide) (by decide) rfl q911 dX11_joinTwo_46 ?_
        refine lv_iload hx hb dX11_joinTwo_49 (lv_at hl 5 rfl) ?_
        refine x_iald C hw hm_5 (by decide) rfl hf.1 dX11_joinTwo_51 ?_
        replace hf := hf.2
        refine lv_if_eq (tgt := 98) hx hb dX11_joinTwo_52 (by decide) (fun c6 => ?_) (fun c6 => ?_)
        · replace hf := hf.1 c6
          exact eX11_joinTwo_b98_26 C hret hm0 ih hK104 σ v1 v2 v3 v4 v5 _ _ _ hf hw (lv_sub hl [0, 1, 2, 3, 4, 5] rfl)
        · replace hf := hf.2 c6
          refine lv_aload_n hx hb dX11_joinTwo_55 rfl (lv_at hl 0 rfl) ?_
          refine lv_aload_n hx hb dX11_joinTwo_56 rfl (lv_at hl 0 rfl) ?_
          have hm_7 : (91, 0) ∈ L := hw.2.2.2.1 11 0 hm0 31 (by decide) (by decide) rfl
          refine x_get (v := .ref (lay 91 0)) (j := 31) C hw hm0 rfl (by decide) (by decide) rfl q911 dX11_joinTwo_57 ?_
          refine lv_iload hx hb dX11_joinTwo_60 (lv_at hl 4 rfl) ?_
          refine x_iald C hw hm_7 (by decide) rfl hf.1 dX11_joinTwo_62 ?_
          replace hf := hf.2
          refine lv_aload_n hx hb dX11_joinTwo_63 rfl (lv_at hl 0 rfl) ?_
          have hm_8 : (91, 0) ∈ L := hw.2.2.2.1 11 0 hm0 31 (by decide) (by decide) rfl
          refine x_get (v := .ref (lay 91 0)) (j := 31) C hw hm0 rfl (by decide) (by decide) rfl q911 dX11_joinTwo_64 ?_
          refine lv_iload hx hb dX11_joinTwo_67 (lv_at hl 5 rfl) ?_
          refine x_iald C hw hm_8 (by decide) rfl hf.1 dX11_joinTwo_69 ?_
          replace hf := hf.2
          refine lv_aload_n hx hb dX11_joinTwo_70 rfl (lv_at hl 0 rfl) ?_
          refine x_runi hw (x_V (n := 0) (rest := [.int (sA σ 91 0 (v5).toNatClampNeg), .int (sA σ 91 0 (v4).toNatClampNeg), .ref (lay 11 0)]) C hw hm0 (by decide) (eX11_allFeatures hf hm0) q1113 q1115 q35 q53 q1116 rfl rfl (by decide +kernel) ⟨Nat.le_of_ble_eq_true rfl, Nat.le_of_ble_eq_true rfl⟩ rfl hl.1 rfl (Nat.le_of_ble_eq_true rfl) dX11_joinTwo_71) (fun r10 σ9 H locs hf hw => ?_)
          try dsimp only at hf
          refine x_runi hw (x_V (n := 3) (rest := []) C hw hm0 (by decide) (eX11_farOf hf hm0) q1117 q1119 q36 q53 q1120 rfl rfl (by decide +kernel) ⟨Nat.le_of_ble_eq_true rfl, Nat.le_of_ble_eq_true rfl⟩ rfl hl.1 rfl (Nat.le_of_ble_eq_true rfl) dX11_joinTwo_74) (fun r12 σ11 H locs hf hw => ?_)
          try dsimp only at hf
          refine lv_istore (lv' := [(6, .int r12), (0, .ref (lay 11 0)), (1, .int v1), (2, .int v2), (3, .int v3), (4, .int v4), (5, .int v5)]) hx hb dX11_joinTwo_77 hl (by decide) rfl (fun ls hl => ?_)
          refine lv_iload_n hx hb dX11_joinTwo_79 rfl (lv_at hl 2 rfl) ?_
          refine lv_if_lt (tgt := 89) hx hb dX11_joinTwo_80 (by decide) (fun c13 => ?_) (fun c13 => ?_)
          · replace hf := hf.1 c13
            exact eX11_joinTwo_b89_26 C hret hm0 ih hK104 σ11 v4 v5 r12 _ _ _ hf hw (lv_sub hl [1, 5, 6, 0] rfl)
          · replace hf := hf.2 c13
            refine lv_iload hx hb dX11_joinTwo_83 (lv_at hl 0 rfl) ?_
            refine lv_iload_n hx hb dX11_joinTwo_85 rfl (lv_at hl 4 rfl) ?_
            refine lv_icmp_ge (tgt := 98) hx hb dX11_joinTwo_86 (by decide) (fun c14 => ?_) (fun c14 => ?_)
            · replace hf := hf.1 c14
              exact eX11_joinTwo_b98_26 C hret hm0 ih hK104 σ11 v1 v2 v3 v4 v5 _ _ _ hf hw (lv_sub hl [1, 2, 3, 4, 5, 6] rfl)
            · replace hf := hf.2 c14
              exact eX11_joinTwo_b89_26 C hret hm0 ih hK104 σ11 v4 v5 r12 _ _ _ hf hw (lv_sub hl [1, 5, 6, 0] rfl)
set_option maxHeartbeats 4000000 in
set_option maxRecDepth 100000 in
theorem eX11_joinTwo_l11 {p : Program} {l : Launch} {e : Env} {s : State} {m : MethodId} {args : Array Value} {below : List Frame} {meth : Method} {c : Code} {E : EC} {lay : Nat → Nat → Nat} {L : List (Nat × Nat)} {A : Nat → Prop} (C : Cx p s m args c meth yX11_joinTwo.cls cX11_joinTwo 7 E A) (hret : meth.sig.returnType = none) {N : Nat} {Q : St → Prop} {Kx110 : St → Int32 → Int32 → Int32 → Prop} (hm0 : (11, 0) ∈ L) (hK110 : ∀ (σ : St) (w1 : Int32) (w2 : Int32) (w3 : Int32) (H : Heap) (locs : List Loc) (ls : Array Slot), Kx110 σ w1 w2 w3 → Wo E lay L A s σ H locs → lv_has ls 7 [(0, .ref (lay 11 0)), (1, .int w1), (2, .int w2), (3, .int w3)] → W p l e rmX11_joinTwo s m args below meth c H locs 0 0 (MQ below (va_Qv Q (Bd E lay L A) A) args s 0 0 A) (F0 m 110 ls [])) : ∀ (n : Nat) (σ : St) (v1 : Int32) (v2 : Int32) (v3 : Int32) (v4 : Int32) (H : Heap) (locs : List Loc) (ls : Array Slot), fX11_joinTwo_l11 N Q Kx110 n σ v1 v2 v3 v4 → Wo E lay L A s σ H locs → lv_has ls 7 [(0, .ref (lay 11 0)), (1, .int v1), (2, .int v2), (3, .int v3), (4, .int v4)] → W p l e rmX11_joinTwo s m args below meth c H locs 0 0 (MQ below (va_Qv Q (Bd E lay L A) A) args s 0 0 A) (F0 m 11 ls []) := by
  have hx := C.1
  have hb := C.2.1
  intro n
  induction n with
  | zero => intro σ v1 v2 v3 v4 H locs ls hf; exact hf.elim
  | succ n ih =>
    intro σ v1 v2 v3 v4 H locs ls hf hw hl
    rw [fX11_joinTwo_l11] at hf
    refine lv_iload hx hb dX11_joinTwo_11 (lv_at hl 4 rfl) ?_
    refine lv_aload_n hx hb dX11_joinTwo_13 rfl (lv_at hl 0 rfl) ?_
    refine x_get (v := .int (sF σ 11 0 6)) (j := 6) C hw hm0 rfl (by decide) (by decide) rfl q886 dX11_joinTwo_14 ?_
    refine lv_icmp_ge (tgt := 110) hx hb dX11_joinTwo_17 (by decide) (fun c1 => ?_) (fun c1 => ?_)
    · replace hf := hf.1 c1
      exact hK110 σ v1 v2 v3 _ _ _ hf hw (lv_sub hl [0, 1, 2, 3] rfl)
    · replace hf := hf.2 c1
      refine lv_iload hx hb dX11_joinTwo_20 (lv_at hl 4 rfl) ?_
      refine lv_iconst (v := 1) hx hb dX11_joinTwo_22 (by decide) ?_
      refine lv_iadd hx hb dX11_joinTwo_23 ?_
      refine lv_istore (lv' := [(5, .int (v4 + (1 : Int32))), (0, .ref (lay 11 0)), (1, .int v1), (2, .int v2), (3, .int v3), (4, .int v4)]) hx hb dX11_joinTwo_24 hl (by decide) rfl (fun ls hl => ?_)
      refine eX11_joinTwo_l26 C hret hm0 ?_ N σ v1 v2 v3 v4 (v4 + (1 : Int32)) _ _ _ hf hw (lv_sub hl [1, 2, 3, 4, 5, 0] rfl)
      · intro σ15 u104_1 u104_2 u104_3 u104_4 H locs ls hf hw hl
        refine lv_iinc (v := (u104_4 + (1 : Int32))) (lv' := [(4, .int (u104_4 + (1 : Int32))), (0, .ref (lay 11 0)), (1, .int u104_1), (2, .int u104_2), (3, .int u104_3)]) hx hb dX11_joinTwo_104 hl (k := 4) rfl (by rfl) (by decide) rfl (fun ls hl => ?_)
        refine lv_goto (tgt := 11) hx hb dX11_joinTwo_107 (by decide) ?_
        exact ih σ15 u104_1 u104_2 u104_3 (u104_4 + (1 : Int32)) _ _ _ hf hw (lv_sub hl [1, 2, 3, 4, 0] rfl)
def fX11_joinTwo (N : Nat) (σ : St) (Q : St → Prop) : Prop := fX11_joinTwo_l11 N Q (fun (σ16 : St) (u110_1 : Int32) (u110_2 : Int32) (u110_3 : Int32) => (vp_in ((3 : Int32) * (sF σ16 11 0 29)) 39 ∧ ∀ σ18 : St, σ18 = setA σ16 90 0 (((3 : Int32) * (sF σ16 11 0 29))).toNatClampNeg u110_1 → (vp_in (((3 : Int32) * (sF σ18 11 0 29)) + (1 : Int32)) 39 ∧ ∀ σ20 : St, σ20 = setA σ18 90 0 ((((3 : Int32) * (sF σ18 11 0 29)) + (1 : Int32))).toNatClampNeg u110_2 → (vp_in (((3 : Int32) * (sF σ20 11 0 29)) + (2 : Int32)) 39 ∧ ∀ σ22 : St, σ22 = setA σ20 90 0 ((((3 : Int32) * (sF σ20 11 0 29)) + (2 : Int32))).toNatClampNeg u110_3 → ∀ σ23 : St, σ23 = setF σ22 11 0 29 ((sF σ22 11 0 29) + (1 : Int32)) → (vp_in u110_1 14 ∧ (vp_in u110_2 14 ∧ (vp_in u110_1 14 ∧ ∀ σ26 : St, σ26 = setA σ23 91 0 (u110_1).toNatClampNeg ((sA σ23 91 0 (u110_1).toNatClampNeg) ||| (sA σ23 91 0 (u110_2).toNatClampNeg)) → (vp_in u110_2 14 ∧ ∀ σ28 : St, σ28 = setA σ26 91 0 (u110_2).toNatClampNeg (0 : Int32) → Q σ28)))))))) N σ (-9 : Int32) (-9 : Int32) (0 : Int32) (0 : Int32)
set_option maxHeartbeats 4000000 in
set_option maxRecDepth 100000 in
theorem eX11_joinTwo {l : Launch} {E : EC} {lay : Nat → Nat → Nat} {L : List (Nat × Nat)} {A : Nat → Prop} {N : Nat} {σ : St} {Q : St → Prop} (hf : fX11_joinTwo N σ Q) (hm0 : (11, 0) ∈ L) : Met l yX11_joinTwo (.code yX11_joinTwo cX11_joinTwo 7 (none) :: big) rmX11_joinTwo (va_Pc [.ref (lay 11 0)] (Bp E lay L A σ)) (va_Qv Q (Bd E lay L A) A) 0 0 A := by
  refine x_met (by decide +kernel) (Nat.le_of_ble_eq_true rfl) ?_
  intro p e s m args below meth c ls C hret hw hl
  have hx := C.1
  have hb := C.2.1
  have hl : lv_has ls 7 [(0, .ref (lay 11 0))] := hl
  unfold fX11_joinTwo at hf
  refine lv_bipush (v := (-9)) hx hb dX11_joinTwo_0 (by decide) ?_
  refine lv_istore_n (lv' := [(1, .int (-9 : Int32)), (0, .ref (lay 11 0))]) hx hb dX11_joinTwo_2 rfl hl (by decide) rfl (fun ls hl => ?_)
  refine lv_bipush (v := (-9)) hx hb dX11_joinTwo_3 (by decide) ?_
  refine lv_istore_n (lv' := [(2, .int (-9 : Int32)), (1, .int (-9 : Int32)), (0, .ref (lay 11 0))]) hx hb dX11_joinTwo_5 rfl hl (by decide) rfl (fun ls hl => ?_)
  refine lv_iconst (v := 0) hx hb dX11_joinTwo_6 (by decide) ?_
  refine lv_istore_n (lv' := [(3, .int (0 : Int32)), (2, .int (-9 : Int32)), (1, .int (-9 : Int32)), (0, .ref (lay 11 0))]) hx hb dX11_joinTwo_7 rfl hl (by decide) rfl (fun ls hl => ?_)
  refine lv_iconst (v := 0) hx hb dX11_joinTwo_8 (by decide) ?_
  refine lv_istore (lv' := [(4, .int (0 : Int32)), (3, .int (0 : Int32)), (2, .int (-9 : Int32)), (1, .int (-9 : Int32)), (0, .ref (lay 11 0))]) hx hb dX11_joinTwo_9 hl (by decide) rfl (fun ls hl => ?_)
  refine eX11_joinTwo_l11 C hret hm0 ?_ N σ (-9 : Int32) (-9 : Int32) (0 : Int32) (0 : Int32) _ _ _ hf hw (lv_sub hl [4, 3, 2, 1, 0] rfl)
  · intro σ16 u110_1 u110_2 u110_3 H locs ls hf hw hl
    refine lv_aload_n hx hb dX11_joinTwo_110 rfl (lv_at hl 0 rfl) ?_
    have hm_17 : (90, 0) ∈ L := hw.2.2.2.1 11 0 hm0 30 (by decide) (by decide) rfl
    refine x_get (v := .ref (lay 90 0)) (j := 30) C hw hm0 rfl (by decide) (by decide) rfl q910 dX11_joinTwo_111 ?_
    refine lv_iconst (v := 3) hx hb dX11_joinTwo_114 (by decide) ?_
    refine lv_aload_n hx hb dX11_joinTwo_115 rfl (lv_at hl 0 rfl) ?_
    refine x_get (v := .int (sF σ16 11 0 29)) (j := 29) C hw hm0 rfl (by decide) (by decide) rfl q909 dX11_joinTwo_116 ?_
    refine lv_imul hx hb dX11_joinTwo_119 ?_
    refine lv_iload_n hx hb dX11_joinTwo_120 rfl (lv_at hl 1 rfl) ?_
    refine x_iast C hw hm_17 (by decide) rfl hf.1 dX11_joinTwo_121 (fun σ18 H locs eσ18 hw => ?_)
    replace hf := hf.2 σ18 eσ18
    refine lv_aload_n hx hb dX11_joinTwo_122 rfl (lv_at hl 0 rfl) ?_
    have hm_19 : (90, 0) ∈ L := hw.2.2.2.1 11 0 hm0 30 (by decide) (by decide) rfl
    refine x_get (v := .ref (lay 90 0)) (j := 30) C hw hm0 rfl (by decide) (by decide) rfl q910 dX11_joinTwo_123 ?_
    refine lv_iconst (v := 3) hx hb dX11_joinTwo_126 (by decide) ?_
    refine lv_aload_n hx hb dX11_joinTwo_127 rfl (lv_at hl 0 rfl) ?_
    refine x_get (v := .int (sF σ18 11 0 29)) (j := 29) C hw hm0 rfl (by decide) (by decide) rfl q909 dX11_joinTwo_128 ?_
    refine lv_imul hx hb dX11_joinTwo_131 ?_
    refine lv_iconst (v := 1) hx hb dX11_joinTwo_132 (by decide) ?_
    refine lv_iadd hx hb dX11_joinTwo_133 ?_
    refine lv_iload_n hx hb dX11_joinTwo_134 rfl (lv_at hl 2 rfl) ?_
    refine x_iast C hw hm_19 (by decide) rfl hf.1 dX11_joinTwo_135 (fun σ20 H locs eσ20 hw => ?_)
    replace hf := hf.2 σ20 eσ20
    refine lv_aload_n hx hb dX11_joinTwo_136 rfl (lv_at hl 0 rfl) ?_
    have hm_21 : (90, 0) ∈ L := hw.2.2.2.1 11 0 hm0 30 (by decide) (by decide) rfl
    refine x_get (v := .ref (lay 90 0)) (j := 30) C hw hm0 rfl (by decide) (by decide) rfl q910 dX11_joinTwo_137 ?_
    refine lv_iconst (v := 3) hx hb dX11_joinTwo_140 (by decide) ?_
    refine lv_aload_n hx hb dX11_joinTwo_141 rfl (lv_at hl 0 rfl) ?_
    refine x_get (v := .int (sF σ20 11 0 29)) (j := 29) C hw hm0 rfl (by decide) (by decide) rfl q909 dX11_joinTwo_142 ?_
    refine lv_imul hx hb dX11_joinTwo_145 ?_
    refine lv_iconst (v := 2) hx hb dX11_joinTwo_146 (by decide) ?_
    refine lv_iadd hx hb dX11_joinTwo_147 ?_
    refine lv_iload_n hx hb dX11_joinTwo_148 rfl (lv_at hl 3 rfl) ?_
    refine x_iast C hw hm_21 (by decide) rfl hf.1 dX11_joinTwo_149 (fun σ22 H locs eσ22 hw => ?_)
    replace hf := hf.2 σ22 eσ22
    refine lv_aload_n hx hb dX11_joinTwo_150 rfl (lv_at hl 0 rfl) ?_
    refine lv_dup hx hb dX11_joinTwo_151 rfl ?_
    refine x_get (v := .int (sF σ22 11 0 29)) (j := 29) C hw hm0 rfl (by decide) (by decide) rfl q909 dX11_joinTwo_152 ?_
    refine lv_iconst (v := 1) hx hb dX11_joinTwo_155 (by decide) ?_
    refine lv_iadd hx hb dX11_joinTwo_156 ?_
    refine x_putI (j := 29) (ty := .int) C hw hm0 rfl (by decide) (by decide) rfl rfl (by decide +kernel) rfl rfl q909 dX11_joinTwo_157 (fun σ23 H locs eσ23 hw => ?_)
    replace hf := hf σ23 eσ23
    refine lv_aload_n hx hb dX11_joinTwo_160 rfl (lv_at hl 0 rfl) ?_
    have hm_24 : (91, 0) ∈ L := hw.2.2.2.1 11 0 hm0 31 (by decide) (by decide) rfl
    refine x_get (v := .ref (lay 91 0)) (j := 31) C hw hm0 rfl (by decide) (by decide) rfl q911 dX11_joinTwo_161 ?_
    refine lv_iload_n hx hb dX11_joinTwo_164 rfl (lv_at hl 1 rfl) ?_
    refine lv_dup2_11 hx hb dX11_joinTwo_165 rfl rfl ?_
    refine x_iald C hw hm_24 (by decide) rfl hf.1 dX11_joinTwo_166 ?_
    replace hf := hf.2
    refine lv_aload_n hx hb dX11_joinTwo_167 rfl (lv_at hl 0 rfl) ?_
    have hm_25 : (91, 0) ∈ L := hw.2.2.2.1 11 0 hm0 31 (by decide) (by decide) rfl
    refine x_get (v := .ref (lay 91 0)) (j := 31) C hw hm0 rfl (by decide) (by decide) rfl q911 dX11_joinTwo_168 ?_
    refine lv_iload_n hx hb dX11_joinTwo_171 rfl (lv_at hl 2 rfl) ?_
    refine x_iald C hw hm_25 (by decide) rfl hf.1 dX11_joinTwo_172 ?_
    replace hf := hf.2
    refine lv_ior hx hb dX11_joinTwo_173 ?_
    refine x_iast C hw hm_24 (by decide) rfl hf.1 dX11_joinTwo_174 (fun σ26 H locs eσ26 hw => ?_)
    replace hf := hf.2 σ26 eσ26
    refine lv_aload_n hx hb dX11_joinTwo_175 rfl (lv_at hl 0 rfl) ?_
    have hm_27 : (91, 0) ∈ L := hw.2.2.2.1 11 0 hm0 31 (by decide) (by decide) rfl
    refine x_get (v := .ref (lay 91 0)) (j := 31) C hw hm0 rfl (by decide) (by decide) rfl q911 dX11_joinTwo_176 ?_
    refine lv_iload_n hx hb dX11_joinTwo_179 rfl (lv_at hl 2 rfl) ?_
    refine lv_iconst (v := 0) hx hb dX11_joinTwo_180 (by decide) ?_
    refine x_iast C hw hm_27 (by decide) rfl hf.1 dX11_joinTwo_181 (fun σ28 H locs eσ28 hw => ?_)
    replace hf := hf.2 σ28 eσ28
    exact x_vret C hret hw hf dX11_joinTwo_182
-- X11_tree
abbrev rmX11_tree : Room := { frames := 4, cells := 0, slots := 0, locals := 99 }
def fX11_tree_b58_13 (N : Nat) (Q : Int32 → St → Prop) (Kh : St → Int32 → Int32 → Prop) (Kx66 : St → Int32 → Prop) (σ : St) (v2 : Int32) (t0 : Int32) (t1 : Int32) : Prop := Kh σ (t1 + t0) (v2 + (1 : Int32))
def fX11_tree_b42_13 (N : Nat) (Q : Int32 → St → Prop) (Kh : St → Int32 → Int32 → Prop) (Kx66 : St → Int32 → Prop) (σ : St) (v1 : Int32) (v2 : Int32) (t0 : Int32) (t1 : Int32) (t2 : Nat) : Prop := (vp_in t1 14 ∧ ∀ σ7 : St, σ7 = setA σ 91 t2 (t1).toNatClampNeg t0 → (vp_in v2 15 ∧ (((sA σ7 70 0 (v2).toNatClampNeg) = 0 → fX11_tree_b58_13 N Q Kh Kx66 σ7 v2 (1 : Int32) v1) ∧ (¬ (sA σ7 70 0 (v2).toNatClampNeg) = 0 → fX11_tree_b58_13 N Q Kh Kx66 σ7 v2 (0 : Int32) v1))))
def fX11_tree_l13 (N : Nat) (Q : Int32 → St → Prop) (Kx66 : St → Int32 → Prop) : Nat → St → Int32 → Int32 → Prop
  | 0, _, _, _ => False
  | n + 1, σ, v1, v2 => (((sF σ 11 0 6) ≤ v2 → Kx66 σ v1) ∧ (¬ (sF σ 11 0 6) ≤ v2 → (vp_in v2 15 ∧ (((sA σ 70 0 (v2).toNatClampNeg) = 0 → fX11_tree_b42_13 N Q (fun (σ : St) (w1 : Int32) (w2 : Int32) => fX11_tree_l13 N Q Kx66 n σ w1 w2) Kx66 σ v1 v2 ((1 : Int32) <<< (v2 &&& 31)) v2 0) ∧ (¬ (sA σ 70 0 (v2).toNatClampNeg) = 0 → fX11_tree_b42_13 N Q (fun (σ : St) (w1 : Int32) (w2 : Int32) => fX11_tree_l13 N Q Kx66 n σ w1 w2) Kx66 σ v1 v2 (0 : Int32) v2 0)))))
def fX11_tree_l68 (N : Nat) (Q : Int32 → St → Prop) (Kx83 : St → Prop) : Nat → St → Int32 → Int32 → Prop
  | 0, _, _, _ => False
  | n + 1, σ, v1, v2 => ((v1 ≤ v2 → Kx83 σ) ∧ (¬ v1 ≤ v2 → fX11_joinTwo N σ (fun (σ12 : St) => fX11_tree_l68 N Q Kx83 n σ12 v1 (v2 + (1 : Int32)))))
set_option maxHeartbeats 4000000 in
set_option maxRecDepth 100000 in
theorem eX11_tree_b58_13 {p : Program} {l : Launch} {e : Env} {s : State} {m : MethodId} {args : Array Value} {below : List Frame} {meth : Method} {c : Code} {E : EC} {lay : Nat → Nat → Nat} {L : List (Nat × Nat)} {A : Nat → Prop} (C : Cx p s m args c meth yX11_tree.cls cX11_tree 3 E A) (hret : meth.sig.returnType = some .int) {N : Nat} {Q : Int32 → St → Prop} {Kh : St → Int32 → Int32 → Prop} {Kx66 : St → Int32 → Prop} (hm0 : (11, 0) ∈ L) (hKh : ∀ (σ : St) (w1 : Int32) (w2 : Int32) (H : Heap) (locs : List Loc) (ls : Array Slot), Kh σ w1 w2 → Wo E lay L A s σ H locs → lv_has ls 3 [(0, .ref (lay 11 0)), (1, .int w1), (2, .int w2)] → W p l e rmX11_tree s m args below meth c H locs 0 0 (MQ below (va_Qi Q (Bd E lay L A) A) args s 0 0 A) (F0 m 13 ls [])) (hK66 : ∀ (σ : St) (w1 : Int32) (H : Heap) (locs : List Loc) (ls : Array Slot), Kx66 σ w1 → Wo E lay L A s σ H locs → lv_has ls 3 [(0, .ref (lay 11 0)), (1, .int w1)] → W p l e rmX11_tree s m args below meth c H locs 0 0 (MQ below (va_Qi Q (Bd E lay L A) A) args s 0 0 A) (F0 m 66 ls [])) (σ : St) (v2 : Int32) (t0 : Int32) (t1 : Int32) (H : Heap) (locs : List Loc) (ls : Array Slot) (hf : fX11_tree_b58_13 N Q Kh Kx66 σ v2 t0 t1) (hw : Wo E lay L A s σ H locs) (hl : lv_has ls 3 [(0, .ref (lay 11 0)), (2, .int v2)]) : W p l e rmX11_tree s m args below meth c H locs 0 0 (MQ below (va_Qi Q (Bd E lay L A) A) args s 0 0 A) (F0 m 58 ls [.int t0, .int t1]) := by
  have hx := C.1
  have hb := C.2.1
  unfold fX11_tree_b58_13 at hf
  refine lv_iadd hx hb dX11_tree_58 ?_
  refine lv_istore_n (lv' := [(1, .int (t1 + t0)), (0, .ref (lay 11 0)), (2, .int v2)]) hx hb dX11_tree_59 rfl hl (by decide) rfl (fun ls hl => ?_)
  refine lv_iinc (v := (v2 + (1 : Int32))) (lv' := [(2, .int (v2 + (1 : Int32))), (1, .int (t1 + t0)), (0, .ref (lay 11 0))]) hx hb dX11_tree_60 hl (k := 2) rfl (by rfl) (by decide) rfl (fun ls hl => ?_)
  refine lv_goto (tgt := 13) hx hb dX11_tree_63 (by decide) ?_
  exact hKh σ (t1 + t0) (v2 + (1 : Int32)) _ _ _ hf hw (lv_sub hl [2, 1, 0] rfl)
set_option maxHeartbeats 4000000 in
set_option maxRecDepth 100000 in
theorem eX11_tree_b42_13 {p : Program} {l : Launch} {e : Env} {s : State} {m : MethodId} {args : Array Value} {below : List Frame} {meth : Method} {c : Code} {E : EC} {lay : Nat → Nat → Nat} {L : List (Nat × Nat)} {A : Nat → Prop} (C : Cx p s m args c meth yX11_tree.cls cX11_tree 3 E A) (hret : meth.sig.returnType = some .int) {N : Nat} {Q : Int32 → St → Prop} {Kh : St → Int32 → Int32 → Prop} {Kx66 : St → Int32 → Prop} (hm0 : (11, 0) ∈ L) (hKh : ∀ (σ : St) (w1 : Int32) (w2 : Int32) (H : Heap) (locs : List Loc) (ls : Array Slot), Kh σ w1 w2 → Wo E lay L A s σ H locs → lv_has ls 3 [(0, .ref (lay 11 0)), (1, .int w1), (2, .int w2)] → W p l e rmX11_tree s m args below meth c H locs 0 0 (MQ below (va_Qi Q (Bd E lay L A) A) args s 0 0 A) (F0 m 13 ls [])) (hK66 : ∀ (σ : St) (w1 : Int32) (H : Heap) (locs : List Loc) (ls : Array Slot), Kx66 σ w1 → Wo E lay L A s σ H locs → lv_has ls 3 [(0, .ref (lay 11 0)), (1, .int w1)] → W p l e rmX11_tree s m args below meth c H locs 0 0 (MQ below (va_Qi Q (Bd E lay L A) A) args s 0 0 A) (F0 m 66 ls [])) (σ : St) (v1 : Int32) (v2 : Int32) (t0 : Int32) (t1 : Int32) (t2 : Nat) (H : Heap) (locs : List Loc) (ls : Array Slot) (hf : fX11_tree_b42_13 N Q Kh Kx66 σ v1 v2 t0 t1 t2) (hw : Wo E lay L A s σ H locs) (hl : lv_has ls 3 [(0, .ref (lay 11 0)), (1, .int v1), (2, .int v2)]) (ht2 : (91, t2) ∈ L) : W p l e rmX11_tree s m args below meth c H locs 0 0 (MQ below (va_Qi Q (Bd E lay L A) A) args s 0 0 A) (F0 m 42 ls [.int t0, .int t1, .ref (lay 91 t2)]) := by
  have hx := C.1
  have hb := C.2.1
  unfold fX11_tree_b42_13 at hf
  refine x_iast C hw ht2 (by decide) rfl hf.1 dX11_tree_42 (fun σ7 H locs eσ7 hw => ?_)
  replace hf := hf.2 σ7 eσ7
  refine lv_iload_n hx hb dX11_tree_43 rfl (lv_at hl 1 rfl) ?_
  refine lv_aload_n hx hb dX11_tree_44 rfl (lv_at hl 0 rfl) ?_
  have hm_8 : (70, 0) ∈ L := hw.2.2.2.1 11 0 hm0 10 (by decide) (by decide) rfl
  refine x_get (v := .ref (lay 70 0)) (j := 10) C hw hm0 rfl (by decide) (by decide) rfl q890 dX11_tree_45 ?_
  refine lv_iload_n hx hb dX11_tree_48 rfl (lv_at hl 2 rfl) ?_
  refine x_zald C hw hm_8 (by decide) rfl hf.1 dX11_tree_49 ?_
  replace hf := hf.2
  refine lv_if_eq (tgt := 57) hx hb dX11_tree_50 (by decide) (fun c9 => ?_) (fun c9 => ?_)
  · replace hf := hf.1 c9
    refine lv_iconst (v := 1) hx hb dX11_tree_57 (by decide) ?_
    exact eX11_tree_b58_13 C hret hm0 hKh hK66 σ7 v2 (1 : Int32) v1 _ _ _ hf hw (lv_sub hl [0, 2] rfl)
  · replace hf := hf.2 c9
    refine lv_iconst (v := 0) hx hb dX11_tree_53 (by decide) ?_
    refine lv_goto (tgt := 58) hx hb dX11_tree_54 (by decide) ?_
    exact eX11_tree_b58_13 C hret hm0 hKh hK66 σ7 v2 (0 : Int32) v1 _ _ _ hf hw (lv_sub hl [0, 2] rfl)
set_option maxHeartbeats 4000000 in
set_option maxRecDepth 100000 in
theorem eX11_tree_l13 {p : Program} {l : Launch} {e : Env} {s : State} {m : MethodId} {args : Array Value} {below : List Frame} {meth : Method} {c : Code} {E : EC} {lay : Nat → Nat → Nat} {L : List (Nat × Nat)} {A : Nat → Prop} (C : Cx p s m args c meth yX11_tree.cls cX11_tree 3 E A) (hret : meth.sig.returnType = some .int) {N : Nat} {Q : Int32 → St → Prop} {Kx66 : St → Int32 → Prop} (hm0 : (11, 0) ∈ L) (hK66 : ∀ (σ : St) (w1 : Int32) (H : Heap) (locs : List Loc) (ls : Array Slot), Kx66 σ w1 → Wo E lay L A s σ H locs → lv_has ls 3 [(0, .ref (lay 11 0)), (1, .int w1)] → W p l e rmX11_tree s m args below meth c H locs 0 0 (MQ below (va_Qi Q (Bd E lay L A) A) args s 0 0 A) (F0 m 66 ls [])) : ∀ (n : Nat) (σ : St) (v1 : Int32) (v2 : Int32) (H : Heap) (locs : List Loc) (ls : Array Slot), fX11_tree_l13 N Q Kx66 n σ v1 v2 → Wo E lay L A s σ H locs → lv_has ls 3 [(0, .ref (lay 11 0)), (1, .int v1), (2, .int v2)] → W p l e rmX11_tree s m args below meth c H locs 0 0 (MQ below (va_Qi Q (Bd E lay L A) A) args s 0 0 A) (F0 m 13 ls []) := by
  have hx := C.1
  have hb := C.2.1
  intro n
  induction n with
  | zero => intro σ v1 v2 H locs ls hf; exact hf.elim
  | succ n ih =>
    intro σ v1 v2 H locs ls hf hw hl
    rw [fX11_tree_l13] at hf
    refine lv_iload_n hx hb dX11_tree_13 rfl (lv_at hl 2 rfl) ?_
    refine lv_aload_n hx hb dX11_tree_14 rfl (lv_at hl 0 rfl) ?_
    refine x_get (v := .int (sF σ 11 0 6)) (j := 6) C hw hm0 rfl (by decide) (by decide) rfl q886 dX11_tree_15 ?_
    refine lv_icmp_ge (tgt := 66) hx hb dX11_tree_18 (by decide) (fun c3 => ?_) (fun c3 => ?_)
    · replace hf := hf.1 c3
      exact hK66 σ v1 _ _ _ hf hw (lv_sub hl [0, 1] rfl)
    · replace hf := hf.2 c3
      refine lv_aload_n hx hb dX11_tree_21 rfl (lv_at hl 0 rfl) ?_
      have hm_4 : (91, 0) ∈ L := hw.2.2.2.1 11 0 hm0 31 (by decide) (by decide) rfl
      refine x_get (v := .ref (lay 91 0)) (j := 31) C hw hm0 rfl (by decide) (by decide) rfl q911 dX11_tree_22 ?_
      refine lv_iload_n hx hb dX11_tree_25 rfl (lv_at hl 2 rfl) ?_
      refine lv_aload_n hx hb dX11_tree_26 rfl (lv_at hl 0 rfl) ?_
      have hm_5 : (70, 0) ∈ L := hw.2.2.2.1 11 0 hm0 10 (by decide) (by decide) rfl
      refine x_get (v := .ref (lay 70 0)) (j := 10) C hw hm0 rfl (by decide) (by decide) rfl q890 dX11_tree_27 ?_
      refine lv_iload_n hx hb dX11_tree_30 rfl (lv_at hl 2 rfl) ?_
      refine x_zald C hw hm_5 (by decide) rfl hf.1 dX11_tree_31 ?_
      replace hf := hf.2
      refine lv_if_eq (tgt := 39) hx hb dX11_tree_32 (by decide) (fun c6 => ?_) (fun c6 => ?_)
      · replace hf := hf.1 c6
        refine lv_iconst (v := 1) hx hb dX11_tree_39 (by decide) ?_
        refine lv_iload_n hx hb dX11_tree_40 rfl (lv_at hl 2 rfl) ?_
        refine lv_ishl hx hb dX11_tree_41 ?_
        exact eX11_tree_b42_13 C hret hm0 ih hK66 σ v1 v2 ((1 : Int32) <<< (v2 &&& 31)) v2 0 _ _ _ hf hw (lv_sub hl [0, 1, 2] rfl) hm_4
      · replace hf := hf.2 c6
        refine lv_iconst (v := 0) hx hb dX11_tree_35 (by decide) ?_
        refine lv_goto (tgt := 42) hx hb dX11_tree_36 (by decide) ?_
        exact eX11_tree_b42_13 C hret hm0 ih hK66 σ v1 v2 (0 : Int32) v2 0 _ _ _ hf hw (lv_sub hl [0, 1, 2] rfl) hm_4
set_option maxHeartbeats 4000000 in
set_option maxRecDepth 100000 in
theorem eX11_tree_l68 {p : Program} {l : Launch} {e : Env} {s : State} {m : MethodId} {args : Array Value} {below : List Frame} {meth : Method} {c : Code} {E : EC} {lay : Nat → Nat → Nat} {L : List (Nat × Nat)} {A : Nat → Prop} (C : Cx p s m args c meth yX11_tree.cls cX11_tree 3 E A) (hret : meth.sig.returnType = some .int) {N : Nat} {Q : Int32 → St → Prop} {Kx83 : St → Prop} (hm0 : (11, 0) ∈ L) (hK83 : ∀ (σ : St) (H : Heap) (locs : List Loc) (ls : Array Slot), Kx83 σ → Wo E lay L A s σ H locs → lv_has ls 3 [(0, .ref (lay 11 0))] → W p l e rmX11_tree s m args below meth c H locs 0 0 (MQ below (va_Qi Q (Bd E lay L A) A) args s 0 0 A) (F0 m 83 ls [])) : ∀ (n : Nat) (σ : St) (v1 : Int32) (v2 : Int32) (H : Heap) (locs : List Loc) (ls : Array Slot), fX11_tree_l68 N Q Kx83 n σ v1 v2 → Wo E lay L A s σ H locs → lv_has ls 3 [(0, .ref (lay 11 0)), (1, .int v1), (2, .int v2)] → W p l e rmX11_tree s m args below meth c H locs 0 0 (MQ below (va_Qi Q (Bd E lay L A) A) args s 0 0 A) (F0 m 68 ls []) := by
  have hx := C.1
  have hb := C.2.1
  intro n
  induction n with
  | zero => intro σ v1 v2 H locs ls hf; exact hf.elim
  | succ n ih =>
    intro σ v1 v2 H locs ls hf hw hl
    rw [fX11_tree_l68] at hf
    refine lv_iload_n hx hb dX11_tree_68 rfl (lv_at hl 2 rfl) ?_
    refine lv_iload_n hx hb dX11_tree_69 rfl (lv_at hl 1 rfl) ?_
    refine lv_icmp_ge (tgt := 83) hx hb dX11_tree_70 (by decide) (fun c11 => ?_) (fun c11 => ?_)
    · replace hf := hf.1 c11
      exact hK83 σ _ _ _ hf hw (lv_sub hl [0] rfl)
    · replace hf := hf.2 c11
      refine lv_aload_n hx hb dX11_tree_73 rfl (lv_at hl 0 rfl) ?_
      refine x_runv hw (x_V (n := 0) (rest := []) C hw hm0 (by decide) (eX11_joinTwo hf hm0) q1172 q1174 q40 q53 q1175 rfl rfl (by decide +kernel) ⟨Nat.le_of_ble_eq_true rfl, Nat.le_of_ble_eq_true rfl⟩ rfl hl.1 rfl (Nat.le_of_ble_eq_true rfl) dX11_tree_74) (fun σ12 H locs hf hw => ?_)
      try dsimp only at hf
      refine lv_iinc (v := (v2 + (1 : Int32))) (lv' := [(2, .int (v2 + (1 : Int32))), (0, .ref (lay 11 0)), (1, .int v1)]) hx hb dX11_tree_77 hl (k := 2) rfl (by rfl) (by decide) rfl (fun ls hl => ?_)
      refine lv_goto (tgt := 68) hx hb dX11_tree_80 (by decide) ?_
      exact ih σ12 v1 (v2 + (1 : Int32)) _ _ _ hf hw (lv_sub hl [1, 2, 0] rfl)
def fX11_tree (N : Nat) (σ : St) (Q : Int32 → St → Prop) : Prop := fX11_setCounts N σ (fun (σ1 : St) => ∀ σ2 : St, σ2 = setF σ1 11 0 29 (0 : Int32) → fX11_tree_l13 N Q (fun (σ10 : St) (u66_1 : Int32) => fX11_tree_l68 N Q (fun (σ13 : St) => Q (sF σ13 11 0 29) σ13) N σ10 u66_1 (1 : Int32)) N σ2 (0 : Int32) (0 : Int32))
set_option maxHeartbeats 4000000 in
set_option maxRecDepth 100000 in
theorem eX11_tree {l : Launch} {E : EC} {lay : Nat → Nat → Nat} {L : List (Nat × Nat)} {A : Nat → Prop} {N : Nat} {σ : St} {Q : Int32 → St → Prop} (hf : fX11_tree N σ Q) (hm0 : (11, 0) ∈ L) : Met l yX11_tree (.code yX11_tree cX11_tree 3 (some .int) :: big) rmX11_tree (va_Pc [.ref (lay 11 0)] (Bp E lay L A σ)) (va_Qi Q (Bd E lay L A) A) 0 0 A := by
  refine x_met (by decide +kernel) (Nat.le_of_ble_eq_true rfl) ?_
  intro p e s m args below meth c ls C hret hw hl
  have hx := C.1
  have hb := C.2.1
  have hl : lv_has ls 3 [(0, .ref (lay 11 0))] := hl
  unfold fX11_tree at hf
  refine lv_aload_n hx hb dX11_tree_0 rfl (lv_at hl 0 rfl) ?_
  refine x_runv hw (x_V (n := 0) (rest := []) C hw hm0 (by decide) (eX11_setCounts hf hm0) q1079 q1081 q32 q53 q1082 rfl rfl (by decide +kernel) ⟨Nat.le_of_ble_eq_true rfl, Nat.le_of_ble_eq_true rfl⟩ rfl hl.1 rfl (Nat.le_of_ble_eq_true rfl) dX11_tree_1) (fun σ1 H locs hf hw => ?_)
  try dsimp only at hf
  refine lv_aload_n hx hb dX11_tree_4 rfl (lv_at hl 0 rfl) ?_
  refine lv_iconst (v := 0) hx hb dX11_tree_5 (by decide) ?_
  refine x_putI (j := 29) (ty := .int) C hw hm0 rfl (by decide) (by decide) rfl rfl (by decide +kernel) rfl rfl q909 dX11_tree_6 (fun σ2 H locs eσ2 hw => ?_)
  replace hf := hf σ2 eσ2
  refine lv_iconst (v := 0) hx hb dX11_tree_9 (by decide) ?_
  refine lv_istore_n (lv' := [(1, .int (0 : Int32)), (0, .ref (lay 11 0))]) hx hb dX11_tree_10 rfl hl (by decide) rfl (fun ls hl => ?_)
  refine lv_iconst (v := 0) hx hb dX11_tree_11 (by decide) ?_
  refine lv_istore_n (lv' := [(2, .int (0 : Int32)), (1, .int (0 : Int32)), (0, .ref (lay 11 0))]) hx hb dX11_tree_12 rfl hl (by decide) rfl (fun ls hl => ?_)
  refine eX11_tree_l13 C hret hm0 ?_ N σ2 (0 : Int32) (0 : Int32) _ _ _ hf hw (lv_sub hl [2, 1, 0] rfl)
  · intro σ10 u66_1 H locs ls hf hw hl
    refine lv_iconst (v := 1) hx hb dX11_tree_66 (by decide) ?_
    refine lv_istore_n (lv' := [(2, .int (1 : Int32)), (0, .ref (lay 11 0)), (1, .int u66_1)]) hx hb dX11_tree_67 rfl hl (by decide) rfl (fun ls hl => ?_)
    refine eX11_tree_l68 C hret hm0 ?_ N σ10 u66_1 (1 : Int32) _ _ _ hf hw (lv_sub hl [1, 2, 0] rfl)
    · intro σ13 H locs ls hf hw hl
      refine lv_aload_n hx hb dX11_tree_83 rfl (lv_at hl 0 rfl) ?_
      refine x_get (v := .int (sF σ13 11 0 29)) (j := 29) C hw hm0 rfl (by decide) (by decide) rfl q909 dX11_tree_84 ?_
      exact x_iret C hret hw hf dX11_tree_87
-- X11_join
abbrev rmX11_join : Room := { frames := 1, cells := 0, slots := 0, locals := 22 }
def fX11_join (N : Nat) (σ : St) (a1 : Int32) (a2 : Int32) (Q : Int32 → St → Prop) : Prop := fX11_in N σ a2 (0 : Int32) (2 : Int32) (fun (r2 : Int32) (σ1 : St) => ((¬ r2 = 0 → fX11_in N σ1 a1 (0 : Int32) ((sF σ1 11 0 29) - (1 : Int32)) (fun (r5 : Int32) (σ4 : St) => ((r5 = 0 → Q (-9 : Int32) σ4) ∧ (¬ r5 = 0 → (vp_in (((3 : Int32) * a1) + a2) 39 ∧ Q (sA σ4 90 0 ((((3 : Int32) * a1) + a2)).toNatClampNeg) σ4))))) ∧ (r2 = 0 → Q (-1 : Int32) σ1)))
set_option maxHeartbeats 4000000 in
set_option maxRecDepth 100000 in
theorem eX11_join {l : Launch} {E : EC} {lay : Nat → Nat → Nat} {L : List (Nat × Nat)} {A : Nat → Prop} {N : Nat} {σ : St} {a1 : Int32} {a2 : Int32} {Q : Int32 → St → Prop} (hf : fX11_join N σ a1 a2 Q) (hm0 : (11, 0) ∈ L) : Met l yX11_join (.code yX11_join cX11_join 3 (some .int) :: big) rmX11_join (va_Pc [.ref (lay 11 0), .int a1, .int a2] (Bp E lay L A σ)) (va_Qi Q (Bd E lay L A) A) 0 0 A := by
  refine x_met (by decide +kernel) (Nat.le_of_ble_eq_true rfl) ?_
  intro p e s m args below meth c ls C hret hw hl
  have hx := C.1
  have hb := C.2.1
  have hl : lv_has ls 3 [(0, .ref (lay 11 0)), (1, .int a1), (2, .int a2)] := hl
  unfold fX11_join at hf
  refine lv_iload_n hx hb dX11_join_0 rfl (lv_at hl 2 rfl) ?_
  refine lv_iconst (v := 0) hx hb dX11_join_1 (by decide) ?_
  refine lv_iconst (v := 2) hx hb dX11_join_2 (by decide) ?_
  refine x_runi hw (x_S (n := 3) (rest := []) C hw (eX11_in hf) q984 q985 q53 q986 rfl rfl (by decide +kernel) ⟨Nat.le_of_ble_eq_true rfl, Nat.le_of_ble_eq_true rfl⟩ rfl hl.1 rfl (Nat.le_of_ble_eq_true rfl) dX11_join_3) (fun r2 σ1 H locs hf hw => ?_)
  have hzr2 := hf.2
  replace hf := hf.1
  try dsimp only at hf
  refine lv_if_ne (tgt := 13) hx hb dX11_join_6 (by decide) (fun c3 => ?_) (fun c3 => ?_)
  · replace hf := hf.1 c3
    refine lv_iload_n hx hb dX11_join_13 rfl (lv_at hl 1 rfl) ?_
    refine lv_iconst (v := 0) hx hb dX11_join_14 (by decide) ?_
    refine lv_aload_n hx hb dX11_join_15 rfl (lv_at hl 0 rfl) ?_
    refine x_get (v := .int (sF σ1 11 0 29)) (j := 29) C hw hm0 rfl (by decide) (by decide) rfl q909 dX11_join_16 ?_
    refine lv_iconst (v := 1) hx hb dX11_join_19 (by decide) ?_
    refine lv_isub hx hb dX11_join_20 ?_
    refine x_runi hw (x_S (n := 3) (rest := []) C hw (eX11_in hf) q984 q985 q53 q986 rfl rfl (by decide +kernel) ⟨Nat.le_of_ble_eq_true rfl, Nat.le_of_ble_eq_true rfl⟩ rfl hl.1 rfl (Nat.le_of_ble_eq_true rfl) dX11_join_21) (fun r5 σ4 H locs hf hw => ?_)
    have hzr5 := hf.2
    replace hf := hf.1
    try dsimp only at hf
    refine lv_if_eq (tgt := 40) hx hb dX11_join_24 (by decide) (fun c6 => ?_) (fun c6 => ?_)
    · replace hf := hf.1 c6
      refine lv_bipush (v := (-9)) hx hb dX11_join_40 (by decide) ?_
      exact x_iret C hret hw hf dX11_join_42
    · replace hf := hf.2 c6
      refine lv_aload_n hx hb dX11_join_27 rfl (lv_at hl 0 rfl) ?_
      have hm_7 : (90, 0) ∈ L := hw.2.2.2.1 11 0 hm0 30 (by decide) (by decide) rfl
      refine x_get (v := .ref (lay 90 0)) (j := 30) C hw hm0 rfl (by decide) (by decide) rfl q910 dX11_join_28 ?_
      refine lv_iconst (v := 3) hx hb dX11_join_31 (by decide) ?_
      refine lv_iload_n hx hb dX11_join_32 rfl (lv_at hl 1 rfl) ?_
      refine lv_imul hx hb dX11_join_33 ?_
      refine lv_iload_n hx hb dX11_join_34 rfl (lv_at hl 2 rfl) ?_
      refine lv_iadd hx hb dX11_join_35 ?_
      refine x_iald C hw hm_7 (by decide) rfl hf.1 dX11_join_36 ?_
      replace hf := hf.2
      refine lv_goto (tgt := 42) hx hb dX11_join_37 (by decide) ?_
      exact x_iret C hret hw hf dX11_join_42
  · replace hf := hf.2 c3
    refine lv_iconst (v := (-1)) hx hb dX11_join_9 (by decide) ?_
    refine lv_goto (tgt := 42) hx hb dX11_join_10 (by decide) ?_
    exact x_iret C hret hw hf dX11_join_42
-- X11_bits
abbrev rmX11_bits : Room := { frames := 0, cells := 0, slots := 0, locals := 0 }
def fX11_bits_l4 (N : Nat) (a0 : Int32) (Q : Int32 → St → Prop) (Kx24 : St → Int32 → Prop) : Nat → St → Int32 → Int32 → Prop
  | 0, _, _, _ => False
  | n + 1, σ, v1, v2 => (((14 : Int32) ≤ v2 → Kx24 σ v1) ∧ (¬ (14 : Int32) ≤ v2 → fX11_bits_l4 N a0 Q Kx24 n σ (v1 + ((a0 >>> (v2 &&& 31)) &&& (1 : Int32))) (v2 + (1 : Int32))))
set_option maxHeartbeats 4000000 in
set_option maxRecDepth 100000 in
theorem eX11_bits_l4 {p : Program} {l : Launch} {e : Env} {s : State} {m : MethodId} {args : Array Value} {below : List Frame} {meth : Method} {c : Code} {E : EC} {lay : Nat → Nat → Nat} {L : List (Nat × Nat)} {A : Nat → Prop} (C : Cx p s m args c meth yX11_bits.cls cX11_bits 3 E A) (hret : meth.sig.returnType = some .int) {N : Nat} {a0 : Int32} {Q : Int32 → St → Prop} {Kx24 : St → Int32 → Prop} (hK24 : ∀ (σ : St) (w1 : Int32) (H : Heap) (locs : List Loc) (ls : Array Slot), Kx24 σ w1 → Wo E lay L A s σ H locs → lv_has ls 3 [(1, .int w1)] → W p l e rmX11_bits s m args below meth c H locs 0 0 (MQ below (va_Qi Q (Bd E lay L A) A) args s 0 0 A) (F0 m 24 ls [])) : ∀ (n : Nat) (σ : St) (v1 : Int32) (v2 : Int32) (H : Heap) (locs : List Loc) (ls : Array Slot), fX11_bits_l4 N a0 Q Kx24 n σ v1 v2 → Wo E lay L A s σ H locs → lv_has ls 3 [(0, .int a0), (1, .int v1), (2, .int v2)] → W p l e rmX11_bits s m args below meth c H locs 0 0 (MQ below (va_Qi Q (Bd E lay L A) A) args s 0 0 A) (F0 m 4 ls []) := by
  have hx := C.1
  have hb := C.2.1
  intro n
  induction n with
  | zero => intro σ v1 v2 H locs ls hf; exact hf.elim
  | succ n ih =>
    intro σ v1 v2 H locs ls hf hw hl
    rw [fX11_bits_l4] at hf
    refine lv_iload_n hx hb dX11_bits_4 rfl (lv_at hl 2 rfl) ?_
    refine lv_bipush (v := 14) hx hb dX11_bits_5 (by decide) ?_
    refine lv_icmp_ge (tgt := 24) hx hb dX11_bits_7 (by decide) (fun c1 => ?_) (fun c1 => ?_)
    · replace hf := hf.1 c1
      exact hK24 σ v1 _ _ _ hf hw (lv_sub hl [1] rfl)
    · replace hf := hf.2 c1
      refine lv_iload_n hx hb dX11_bits_10 rfl (lv_at hl 1 rfl) ?_
      refine lv_iload_n hx hb dX11_bits_11 rfl (lv_at hl 0 rfl) ?_
      refine lv_iload_n hx hb dX11_bits_12 rfl (lv_at hl 2 rfl) ?_
      refine lv_ishr hx hb dX11_bits_13 ?_
      refine lv_iconst (v := 1) hx hb dX11_bits_14 (by decide) ?_
      refine lv_iand hx hb dX11_bits_15 ?_
      refine lv_iadd hx hb dX11_bits_16 ?_
      refine lv_istore_n (lv' := [(1, .int (v1 + ((a0 >>> (v2 &&& 31)) &&& (1 : Int32)))), (0, .int a0), (2, .int v2)]) hx hb dX11_bits_17 rfl hl (by decide) rfl (fun ls hl => ?_)
      refine lv_iinc (v := (v2 + (1 : Int32))) (lv' := [(2, .int (v2 + (1 : Int32))), (1, .int (v1 + ((a0 >>> (v2 &&& 31)) &&& (1 : Int32)))), (0, .int a0)]) hx hb dX11_bits_18 hl (k := 2) rfl (by rfl) (by decide) rfl (fun ls hl => ?_)
      refine lv_goto (tgt := 4) hx hb dX11_bits_21 (by decide) ?_
      exact ih σ (v1 + ((a0 >>> (v2 &&& 31)) &&& (1 : Int32))) (v2 + (1 : Int32)) _ _ _ hf hw (lv_sub hl [2, 1, 0] rfl)
def fX11_bits (N : Nat) (σ : St) (a0 : Int32) (Q : Int32 → St → Prop) : Prop := fX11_bits_l4 N a0 Q (fun (σ2 : St) (u24_1 : Int32) => Q u24_1 σ2) N σ (0 : Int32) (0 : Int32)
set_option maxHeartbeats 4000000 in
set_option maxRecDepth 100000 in
theorem eX11_bits {l : Launch} {E : EC} {lay : Nat → Nat → Nat} {L : List (Nat × Nat)} {A : Nat → Prop} {N : Nat} {σ : St} {a0 : Int32} {Q : Int32 → St → Prop} (hf : fX11_bits N σ a0 Q) : Met l yX11_bits (.code yX11_bits cX11_bits 3 (some .int) :: big) rmX11_bits (va_Pc [.int a0] (Bp E lay L A σ)) (va_Qi Q (Bd E lay L A) A) 0 0 A := by
  refine x_met (by decide +kernel) (Nat.le_of_ble_eq_true rfl) ?_
  intro p e s m args below meth c ls C hret hw hl
  have hx := C.1
  have hb := C.2.1
  have hl : lv_has ls 3 [(0, .int a0)] := hl
  unfold fX11_bits at hf
  refine lv_iconst (v := 0) hx hb dX11_bits_0 (by decide) ?_
  refine lv_istore_n (lv' := [(1, .int (0 : Int32)), (0, .int a0)]) hx hb dX11_bits_1 rfl hl (by decide) rfl (fun ls hl => ?_)
  refine lv_iconst (v := 0) hx hb dX11_bits_2 (by decide) ?_
  refine lv_istore_n (lv' := [(2, .int (0 : Int32)), (1, .int (0 : Int32)), (0, .int a0)]) hx hb dX11_bits_3 rfl hl (by decide) rfl (fun ls hl => ?_)
  refine eX11_bits_l4 C hret ?_ N σ (0 : Int32) (0 : Int32) _ _ _ hf hw (lv_sub hl [2, 1, 0] rfl)
  · intro σ2 u24_1 H locs ls hf hw hl
    refine lv_iload_n hx hb dX11_bits_24 rfl (lv_at hl 0 rfl) ?_
    exact x_iret C hret hw hf dX11_bits_25
-- X11_apart
abbrev rmX11_apart : Room := { frames := 2, cells := 0, slots := 0, locals := 46 }
def fX11_apart (N : Nat) (σ : St) (a1 : Int32) (a2 : Int32) (a3 : Int32) (Q : Int32 → St → Prop) : Prop := fX11_rateIn N σ a1 a2 (fun (r2 : Int32) (σ1 : St) => fX11_rateIn N σ1 a1 a3 (fun (r4 : Int32) (σ3 : St) => ((r2 ≤ r4 → Q (r4 - r2) σ3) ∧ (¬ r2 ≤ r4 → Q (r2 - r4) σ3))))
set_option maxHeartbeats 4000000 in
set_option maxRecDepth 100000 in
theorem eX11_apart {l : Launch} {E : EC} {lay : Nat → Nat → Nat} {L : List (Nat × Nat)} {A : Nat → Prop} {N : Nat} {σ : St} {a1 : Int32} {a2 : Int32} {a3 : Int32} {Q : Int32 → St → Prop} (hf : fX11_apart N σ a1 a2 a3 Q) (hm0 : (11, 0) ∈ L) : Met l yX11_apart (.code yX11_apart cX11_apart 6 (some .int) :: big) rmX11_apart (va_Pc [.ref (lay 11 0), .int a1, .int a2, .int a3] (Bp E lay L A σ)) (va_Qi Q (Bd E lay L A) A) 0 0 A := by
  refine x_met (by decide +kernel) (Nat.le_of_ble_eq_true rfl) ?_
  intro p e s m args below meth c ls C hret hw hl
  have hx := C.1
  have hb := C.2.1
  have hl : lv_has ls 6 [(0, .ref (lay 11 0)), (1, .int a1), (2, .int a2), (3, .int a3)] := hl
  unfold fX11_apart at hf
  refine lv_aload_n hx hb dX11_apart_0 rfl (lv_at hl 0 rfl) ?_
  refine lv_iload_n hx hb dX11_apart_1 rfl (lv_at hl 1 rfl) ?_
  refine lv_iload_n hx hb dX11_apart_2 rfl (lv_at hl 2 rfl) ?_
  refine x_runi hw (x_V (n := 2) (rest := []) C hw hm0 (by decide) (eX11_rateIn hf hm0) q1083 q1085 q33 q53 q1086 rfl rfl (by decide +kernel) ⟨Nat.le_of_ble_eq_true rfl, Nat.le_of_ble_eq_true rfl⟩ rfl hl.1 rfl (Nat.le_of_ble_eq_true rfl) dX11_apart_3) (fun r2 σ1 H locs hf hw => ?_)
  try dsimp only at hf
  refine lv_istore (lv' := [(4, .int r2), (0, .ref (lay 11 0)), (1, .int a1), (2, .int a2), (3, .int a3)]) hx hb dX11_apart_6 hl (by decide) rfl (fun ls hl => ?_)
  refine lv_aload_n hx hb dX11_apart_8 rfl (lv_at hl 1 rfl) ?_
  refine lv_iload_n hx hb dX11_apart_9 rfl (lv_at hl 2 rfl) ?_
  refine lv_iload_n hx hb dX11_apart_10 rfl (lv_at hl 4 rfl) ?_
  refine x_runi hw (x_V (n := 2) (rest := []) C hw hm0 (by decide) (eX11_rateIn hf hm0) q1083 q1085 q33 q53 q1086 rfl rfl (by decide +kernel) ⟨Nat.le_of_ble_eq_true rfl, Nat.le_of_ble_eq_true rfl⟩ rfl hl.1 rfl (Nat.le_of_ble_eq_true rfl) dX11_apart_11) (fun r4 σ3 H locs hf hw => ?_)
  try dsimp only at hf
  refine lv_istore (lv' := [(5, .int r4), (4, .int r2), (0, .ref (lay 11 0)), (1, .int a1), (2, .int a2), (3, .int a3)]) hx hb dX11_apart_14 hl (by decide) rfl (fun ls hl => ?_)
  refine lv_iload hx hb dX11_apart_16 (lv_at hl 1 rfl) ?_
  refine lv_iload hx hb dX11_apart_18 (lv_at hl 0 rfl) ?_
  refine lv_icmp_le (tgt := 31) hx hb dX11_apart_20 (by decide) (fun c5 => ?_) (fun c5 => ?_)
  · replace hf := hf.1 c5
    refine lv_iload hx hb dX11_apart_31 (lv_at hl 0 rfl) ?_
    refine lv_iload hx hb dX11_apart_33 (lv_at hl 1 rfl) ?_
    refine lv_isub hx hb dX11_apart_35 ?_
    exact x_iret C hret hw hf dX11_apart_36
  · replace hf := hf.2 c5
    refine lv_iload hx hb dX11_apart_23 (lv_at hl 1 rfl) ?_
    refine lv_iload hx hb dX11_apart_25 (lv_at hl 0 rfl) ?_
    refine lv_isub hx hb dX11_apart_27 ?_
    refine lv_goto (tgt := 36) hx hb dX11_apart_28 (by decide) ?_
    exact x_iret C hret hw hf dX11_apart_36
-- X11_shuffle
abbrev rmX11_shuffle : Room := { frames := 4, cells := 0, slots := 0, locals := 99 }
def fX11_shuffle_b57 (N : Nat) (a1 : Int32) (a2 : Int32) (a3 : Int32) (Q : Int32 → St → Prop) (σ : St) : Prop := fX11_meets N σ (4 : Int32) (fun (r17 : Int32) (σ16 : St) => Q r17 σ16)
def fX11_shuffle_b164_101 (N : Nat) (a1 : Int32) (a2 : Int32) (a3 : Int32) (Q : Int32 → St → Prop) (Kh : St → Int32 → Int32 → Int32 → Int32 → Int32 → Int32 → Prop) (Kx170 : St → Int32 → Int32 → Prop) (σ : St) (v6 : Int32) (v7 : Int32) (v8 : Int32) (v9 : Int32) (v10 : Int32) (v11 : Int32) : Prop := Kh σ v6 v7 v8 v9 v10 (v11 + (1 : Int32))
def fX11_shuffle_b161_101 (N : Nat) (a1 : Int32) (a2 : Int32) (a3 : Int32) (Q : Int32 → St → Prop) (Kh : St → Int32 → Int32 → Int32 → Int32 → Int32 → Int32 → Prop) (Kx170 : St → Int32 → Int32 → Prop) (σ : St) (v6 : Int32) (v7 : Int32) (v8 : Int32) (v10 : Int32) (v11 : Int32) (t0 : Int32) (t1 : Int32) : Prop := fX11_shuffle_b164_101 N a1 a2 a3 Q Kh Kx170 σ v6 v7 v8 (t1 + t0) v10 v11
def fX11_shuffle_l101 (N : Nat) (a1 : Int32) (a2 : Int32) (a3 : Int32) (Q : Int32 → St → Prop) (Kx170 : St → Int32 → Int32 → Prop) : Nat → St → Int32 → Int32 → Int32 → Int32 → Int32 → Int32 → Prop
  | 0, _, _, _, _, _, _, _ => False
  | n + 1, σ, v6, v7, v8, v9, v10, v11 => ((((1 : Int32) <<< ((sF σ 11 0 6) &&& 31)) ≤ v11 → Kx170 σ v9 v10) ∧ (¬ ((1 : Int32) <<< ((sF σ 11 0 6) &&& 31)) ≤ v11 → ((¬ (v11 &&& (v6 ^^^ (-1 : Int32))) = 0 → fX11_shuffle_b164_101 N a1 a2 a3 Q (fun (σ : St) (w6 : Int32) (w7 : Int32) (w8 : Int32) (w9 : Int32) (w10 : Int32) (w11 : Int32) => fX11_shuffle_l101 N a1 a2 a3 Q Kx170 n σ w6 w7 w8 w9 w10 w11) Kx170 σ v6 v7 v8 v9 v10 v11) ∧ ((v11 &&& (v6 ^^^ (-1 : Int32))) = 0 → fX11_bits N σ v11 (fun (r27 : Int32) (σ26 : St) => ((¬ r27 = v7 → fX11_shuffle_b164_101 N a1 a2 a3 Q (fun (σ : St) (w6 : Int32) (w7 : Int32) (w8 : Int32) (w9 : Int32) (w10 : Int32) (w11 : Int32) => fX11_shuffle_l101 N a1 a2 a3 Q Kx170 n σ w6 w7 w8 w9 w10 w11) Kx170 σ26 v6 v7 v8 v9 v10 v11) ∧ (r27 = v7 → fX11_apart N σ26 a1 v11 (v6 &&& (v11 ^^^ (-1 : Int32))) (fun (r30 : Int32) (σ29 : St) => ((r30 < v8 → fX11_shuffle_b161_101 N a1 a2 a3 Q (fun (σ : St) (w6 : Int32) (w7 : Int32) (w8 : Int32) (w9 : Int32) (w10 : Int32) (w11 : Int32) => fX11_shuffle_l101 N a1 a2 a3 Q Kx170 n σ w6 w7 w8 w9 w10 w11) Kx170 σ29 v6 v7 v8 (v10 + (1 : Int32)) v11 (0 : Int32) v9) ∧ (¬ r30 < v8 → fX11_shuffle_b161_101 N a1 a2 a3 Q (fun (σ : St) (w6 : Int32) (w7 : Int32) (w8 : Int32) (w9 : Int32) (w10 : Int32) (w11 : Int32) => fX11_shuffle_l101 N a1 a2 a3 Q Kx170 n σ w6 w7 w8 w9 w10 w11) Kx170 σ29 v6 v7 v8 (v10 + (1 : Int32)) v11 (1 : Int32) v9))))))))))
set_option maxHeartbeats 4000000 in
set_option maxRecDepth 100000 in
theorem eX11_shuffle_b57 {p : Program} {l : Launch} {e : Env} {s : State} {m : MethodId} {args : Array Value} {below : List Frame} {meth : Method} {c : Code} {E : EC} {lay : Nat → Nat → Nat} {L : List (Nat × Nat)} {A : Nat → Prop} (C : Cx p s m args c meth yX11_shuffle.cls cX11_shuffle 12 E A) (hret : meth.sig.returnType = some .int) {N : Nat} {a1 : Int32} {a2 : Int32} {a3 : Int32} {Q : Int32 → St → Prop} (hm0 : (11, 0) ∈ L) (σ : St) (H : Heap) (locs : List Loc) (ls : Array Slot) (hf : fX11_shuffle_b57 N a1 a2 a3 Q σ) (hw : Wo E lay L A s σ H locs) (hl : lv_has ls 12 [(0, .ref (lay 11 0))]) : W p l e rmX11_shuffle s m args below meth c H locs 0 0 (MQ below (va_Qi Q (Bd E lay L A) A) args s 0 0 A) (F0 m 57 ls []) := by
  have hx := C.1
  have hb := C.2.1
  unfold fX11_shuffle_b57 at hf
  refine lv_aload_n hx hb dX11_shuffle_57 rfl (lv_at hl 0 rfl) ?_
  refine lv_iconst (v := 4) hx hb dX11_shuffle_58 (by decide) ?_
  refine x_runi hw (x_V (n := 1) (rest := []) C hw hm0 (by decide) (eX11_meets hf hm0) q987 q989 q22 q53 q990 rfl rfl (by decide +kernel) ⟨Nat.le_of_ble_eq_true rfl, Nat.le_of_ble_eq_true rfl⟩ rfl hl.1 rfl (Nat.le_of_ble_eq_true rfl) dX11_shuffle_59) (fun r17 σ16 H locs hf hw => ?_)
  try dsimp only at hf
  exact x_iret C hret hw hf dX11_shuffle_62
set_option maxHeartbeats 4000000 in
set_option maxRecDepth 100000 in
theorem eX11_shuffle_b164_101 {p : Program} {l : Launch} {e : Env} {s : State} {m : MethodId} {args : Array Value} {below : List Frame} {meth : Method} {c : Code} {E : EC} {lay : Nat → Nat → Nat} {L : List (Nat × Nat)} {A : Nat → Prop} (C : Cx p s m args c meth yX11_shuffle.cls cX11_shuffle 12 E A) (hret : meth.sig.returnType = some .int) {N : Nat} {a1 : Int32} {a2 : Int32} {a3 : Int32} {Q : Int32 → St → Prop} {Kh : St → Int32 → Int32 → Int32 → Int32 → Int32 → Int32 → Prop} {Kx170 : St → Int32 → Int32 → Prop} (hm0 : (11, 0) ∈ L) (hKh : ∀ (σ : St) (w6 : Int32) (w7 : Int32) (w8 : Int32) (w9 : Int32) (w10 : Int32) (w11 : Int32) (H : Heap) (locs : List Loc) (ls : Array Slot), Kh σ w6 w7 w8 w9 w10 w11 → Wo E lay L A s σ H locs → lv_has ls 12 [(0, .ref (lay 11 0)), (1, .int a1), (6, .int w6), (7, .int w7), (8, .int w8), (9, .int w9), (10, .int w10), (11, .int w11)] → W p l e rmX11_shuffle s m args below meth c H locs 0 0 (MQ below (va_Qi Q (Bd E lay L A) A) args s 0 0 A) (F0 m 101 ls [])) (hK170 : ∀ (σ : St) (w9 : Int32) (w10 : Int32) (H : Heap) (locs : List Loc) (ls : Array Slot), Kx170 σ w9 w10 → Wo E lay L A s σ H locs → lv_has ls 12 [(0, .ref (lay 11 0)), (9, .int w9), (10, .int w10)] → W p l e rmX11_shuffle s m args below meth c H locs 0 0 (MQ below (va_Qi Q (Bd E lay L A) A) args s 0 0 A) (F0 m 170 ls [])) (σ : St) (v6 : Int32) (v7 : Int32) (v8 : Int32) (v9 : Int32) (v10 : Int32) (v11 : Int32) (H : Heap) (locs : List Loc) (ls : Array Slot) (hf : fX11_shuffle_b164_101 N a1 a2 a3 Q Kh Kx170 σ v6 v7 v8 v9 v10 v11) (hw : Wo E lay L A s σ H locs) (hl : lv_has ls 12 [(0, .ref (lay 11 0)), (1, .int a1), (6, .int v6), (7, .int v7), (8, .int v8), (9, .int v9), (10, .int v10), (11, .int v11)]) : W p l e rmX11_shuffle s m args below meth c H locs 0 0 (MQ below (va_Qi Q (Bd E lay L A) A) args s 0 0 A) (F0 m 164 ls []) := by
  have hx := C.1
  have hb := C.2.1
  unfold fX11_shuffle_b164_101 at hf
  refine lv_iinc (v := (v11 + (1 : Int32))) (lv' := [(11, .int (v11 + (1 : Int32))), (0, .ref (lay 11 0)), (1, .int a1), (6, .int v6), (7, .int v7), (8, .int v8), (9, .int v9), (10, .int v10)]) hx hb dX11_shuffle_164 hl (k := 7) rfl (by rfl) (by decide) rfl (fun ls hl => ?_)
  refine lv_goto (tgt := 101) hx hb dX11_shuffle_167 (by decide) ?_
  exact hKh σ v6 v7 v8 v9 v10 (v11 + (1 : Int32)) _ _ _ hf hw (lv_sub hl [1, 2, 3, 4, 5, 6, 7, 0] rfl)
set_option maxHeartbeats 4000000 in
set_option maxRecDepth 100000 in
theorem eX11_shuffle_b161_101 {p : Program} {l : Launch} {e : Env} {s : State} {m : MethodId} {args : Array Value} {below : List Frame} {meth : Method} {c : Code} {E : EC} {lay : Nat → Nat → Nat} {L : List (Nat × Nat)} {A : Nat → Prop} (C : Cx p s m args c meth yX11_shuffle.cls cX11_shuffle 12 E A) (hret : meth.sig.returnType = some .int) {N : Nat} {a1 : Int32} {a2 : Int32} {a3 : Int32} {Q : Int32 → St → Prop} {Kh : St → Int32 → Int32 → Int32 → Int32 → Int32 → Int32 → Prop} {Kx170 : St → Int32 → Int32 → Prop} (hm0 : (11, 0) ∈ L) (hKh : ∀ (σ : St) (w6 : Int32) (w7 : Int32) (w8 : Int32) (w9 : Int32) (w10 : Int32) (w11 : Int32) (H : Heap) (locs : List Loc) (ls : Array Slot), Kh σ w6 w7 w8 w9 w10 w11 → Wo E lay L A s σ H locs → lv_has ls 12 [(0, .ref (lay 11 0)), (1, .int a1), (6, .int w6), (7, .int w7), (8, .int w8), (9, .int w9), (10, .int w10), (11, .int w11)] → W p l e rmX11_shuffle s m args below meth c H locs 0 0 (MQ below (va_Qi Q (Bd E lay L A) A) args s 0 0 A) (F0 m 101 ls [])) (hK170 : ∀ (σ : St) (w9 : Int32) (w10 : Int32) (H : Heap) (locs : List Loc) (ls : Array Slot), Kx170 σ w9 w10 → Wo E lay L A s σ H locs → lv_has ls 12 [(0, .ref (lay 11 0)), (9, .int w9), (10, .int w10)] → W p l e rmX11_shuffle s m args below meth c H locs 0 0 (MQ below (va_Qi Q (Bd E lay L A) A) args s 0 0 A) (F0 m 170 ls [])) (σ : St) (v6 : Int32) (v7 : Int32) (v8 : Int32) (v10 : Int32) (v11 : Int32) (t0 : Int32) (t1 : Int32) (H : Heap) (locs : List Loc) (ls : Array Slot) (hf : fX11_shuffle_b161_101 N a1 a2 a3 Q Kh Kx170 σ v6 v7 v8 v10 v11 t0 t1) (hw : Wo E lay L A s σ H locs) (hl : lv_has ls 12 [(0, .ref (lay 11 0)), (1, .int a1), (6, .int v6), (7, .int v7), (8, .int v8), (10, .int v10), (11, .int v11)]) : W p l e rmX11_shuffle s m args below meth c H locs 0 0 (MQ below (va_Qi Q (Bd E lay L A) A) args s 0 0 A) (F0 m 161 ls [.int t0, .int t1]) := by
  have hx := C.1
  have hb := C.2.1
  unfold fX11_shuffle_b161_101 at hf
  refine lv_iadd hx hb dX11_shuffle_161 ?_
  refine lv_istore (lv' := [(9, .int (t1 + t0)), (0, .ref (lay 11 0)), (1, .int a1), (6, .int v6), (7, .int v7), (8, .int v8), (10, .int v10), (11, .int v11)]) hx hb dX11_shuffle_162 hl (by decide) rfl (fun ls hl => ?_)
  exact eX11_shuffle_b164_101 C hret hm0 hKh hK170 σ v6 v7 v8 (t1 + t0) v10 v11 _ _ _ hf hw (lv_sub hl [1, 2, 3, 4, 5, 0, 6, 7] rfl)
set_option maxHeartbeats 4000000 in
set_option maxRecDepth 100000 in
theorem eX11_shuffle_l101 {p : Program} {l : Launch} {e : Env} {s : State} {m : MethodId} {args : Array Value} {below : List Frame} {meth : Method} {c : Code} {E : EC} {lay : Nat → Nat → Nat} {L : List (Nat × Nat)} {A : Nat → Prop} (C : Cx p s m args c meth yX11_shuffle.cls cX11_shuffle 12 E A) (hret : meth.sig.returnType = some .int) {N : Nat} {a1 : Int32} {a2 : Int32} {a3 : Int32} {Q : Int32 → St → Prop} {Kx170 : St → Int32 → Int32 → Prop} (hm0 : (11, 0) ∈ L) (hK170 : ∀ (σ : St) (w9 : Int32) (w10 : Int32) (H : Heap) (locs : List Loc) (ls : Array Slot), Kx170 σ w9 w10 → Wo E lay L A s σ H locs → lv_has ls 12 [(0, .ref (lay 11 0)), (9, .int w9), (10, .int w10)] → W p l e rmX11_shuffle s m args below meth c H locs 0 0 (MQ below (va_Qi Q (Bd E lay L A) A) args s 0 0 A) (F0 m 170 ls [])) : ∀ (n : Nat) (σ : St) (v6 : Int32) (v7 : Int32) (v8 : Int32) (v9 : Int32) (v10 : Int32) (v11 : Int32) (H : Heap) (locs : List Loc) (ls : Array Slot), fX11_shuffle_l101 N a1 a2 a3 Q Kx170 n σ v6 v7 v8 v9 v10 v11 → Wo E lay L A s σ H locs → lv_has ls 12 [(0, .ref (lay 11 0)), (1, .int a1), (6, .int v6), (7, .int v7), (8, .int v8), (9, .int v9), (10, .int v10), (11, .int v11)] → W p l e rmX11_shuffle s m args below meth c H locs 0 0 (MQ below (va_Qi Q (Bd E lay L A) A) args s 0 0 A) (F0 m 101 ls []) := by
  have hx := C.1
  have hb := C.2.1
  intro n
  induction n with
  | zero => intro σ v6 v7 v8 v9 v10 v11 H locs ls hf; exact hf.elim
  | succ n ih =>
    intro σ v6 v7 v8 v9 v10 v11 H locs ls hf hw hl
    rw [fX11_shuffle_l101] at hf
    refine lv_iload hx hb dX11_shuffle_101 (lv_at hl 7 rfl) ?_
    refine lv_iconst (v := 1) hx hb dX11_shuffle_103 (by decide) ?_
    refine lv_aload_n hx hb dX11_shuffle_104 rfl (lv_at hl 0 rfl) ?_
    refine x_get (v := .int (sF σ 11 0 6)) (j := 6) C hw hm0 rfl (by decide) (by decide) rfl q886 dX11_shuffle_105 ?_
    refine lv_ishl hx hb dX11_shuffle_108 ?_
    refine lv_icmp_ge (tgt := 170) hx hb dX11_shuffle_109 (by decide) (fun c24 => ?_) (fun c24 => ?_)
    · replace hf := hf.1 c24
      exact hK170 σ v9 v10 _ _ _ hf hw (lv_sub hl [0, 5, 6] rfl)
    · replace hf := hf.2 c24
      refine lv_iload hx hb dX11_shuffle_112 (lv_at hl 7 rfl) ?_
      refine lv_iload hx hb dX11_shuffle_114 (lv_at hl 2 rfl) ?_
      refine lv_iconst (v := (-1)) hx hb dX11_shuffle_116 (by decide) ?_
      refine lv_ixor hx hb dX11_shuffle_117 ?_
      refine lv_iand hx hb dX11_shuffle_118 ?_
      refine lv_if_ne (tgt := 164) hx hb dX11_shuffle_119 (by decide) (fun c25 => ?_) (fun c25 => ?_)
      · replace hf := hf.1 c25
        exact eX11_shuffle_b164_101 C hret hm0 ih hK170 σ v6 v7 v8 v9 v10 v11 _ _ _ hf hw (lv_sub hl [0, 1, 2, 3, 4, 5, 6, 7] rfl)
      · replace hf := hf.2 c25
        refine lv_iload hx hb dX11_shuffle_122 (lv_at hl 7 rfl) ?_
        refine x_runi hw (x_S (n := 1) (rest := []) C hw (eX11_bits hf) q1184 q1185 q53 q1186 rfl rfl (by decide +kernel) ⟨Nat.le_of_ble_eq_true rfl, Nat.le_of_ble_eq_true rfl⟩ rfl hl.1 rfl (Nat.le_of_ble_eq_true rfl) dX11_shuffle_124) (fun r27 σ26 H locs hf hw => ?_)
        try dsimp only at hf
        refine lv_iload hx hb dX11_shuffle_127 (lv_at hl 3 rfl) ?_
        refine lv_icmp_ne (tgt := 164) hx hb dX11_shuffle_129 (by decide) (fun c28 => ?_) (fun c28 => ?_)
        · replace hf := hf.1 c28
          exact eX11_shuffle_b164_101 C hret hm0 ih hK170 σ26 v6 v7 v8 v9 v10 v11 _ _ _ hf hw (lv_sub hl [0, 1, 2, 3, 4, 5, 6, 7] rfl)
        · replace hf := hf.2 c28
          refine lv_iinc (v := (v10 + (1 : Int32))) (lv' := [(10, .int (v10 + (1 : Int32))), (0, .ref (lay 11 0)), (1, .int a1), (6, .int v6), (7, .int v7), (8, .int v8), (9, .int v9), (11, .int v11)]) hx hb dX11_shuffle_132 hl (k := 6) rfl (by rfl) (by decide) rfl (fun ls hl => ?_)
          refine lv_iload hx hb dX11_shuffle_135 (lv_at hl 6 rfl) ?_
          refine lv_aload_n hx hb dX11_shuffle_137 rfl (lv_at hl 1 rfl) ?_
          refine lv_iload_n hx hb dX11_shuffle_138 rfl (lv_at hl 2 rfl) ?_
          refine lv_iload hx hb dX11_shuffle_139 (lv_at hl 7 rfl) ?_
          refine lv_iload hx hb dX11_shuffle_141 (lv_at hl 3 rfl) ?_
          refine lv_iload hx hb dX11_shuffle_143 (lv_at hl 7 rfl) ?_
          refine lv_iconst (v := (-1)) hx hb dX11_shuffle_145 (by decide) ?_
          refine lv_ixor hx hb dX11_shuffle_146 ?_
          refine lv_iand hx hb dX11_shuffle_147 ?_
          refine x_runi hw (x_V (n := 3) (rest := [.int v9]) C hw hm0 (by decide) (eX11_apart hf hm0) q1187 q1189 q41 q53 q1190 rfl rfl (by decide +kernel) ⟨Nat.le_of_ble_eq_true rfl, Nat.le_of_ble_eq_true rfl⟩ rfl hl.1 rfl (Nat.le_of_ble_eq_true rfl) dX11_shuffle_148) (fun r30 σ29 H locs hf hw => ?_)
          try dsimp only at hf
          refine lv_iload hx hb dX11_shuffle_151 (lv_at hl 5 rfl) ?_
          refine lv_icmp_lt (tgt := 160) hx hb dX11_shuffle_153 (by decide) (fun c31 => ?_) (fun c31 => ?_)
          · replace hf := hf.1 c31
            refine lv_iconst (v := 0) hx hb dX11_shuffle_160 (by decide) ?_
            exact eX11_shuffle_b161_101 C hret hm0 ih hK170 σ29 v6 v7 v8 (v10 + (1 : Int32)) v11 (0 : Int32) v9 _ _ _ hf hw (lv_sub hl [1, 2, 3, 4, 5, 0, 7] rfl)
          · replace hf := hf.2 c31
            refine lv_iconst (v := 1) hx hb dX11_shuffle_156 (by decide) ?_
            refine lv_goto (tgt := 161) hx hb dX11_shuffle_157 (by decide) ?_
            exact eX11_shuffle_b161_101 C hret hm0 ih hK170 σ29 v6 v7 v8 (v10 + (1 : Int32)) v11 (1 : Int32) v9 _ _ _ hf hw (lv_sub hl [1, 2, 3, 4, 5, 0, 7] rfl)
def fX11_shuffle (N : Nat) (σ : St) (a1 : Int32) (a2 : Int32) (a3 : Int32) (Q : Int32 → St → Prop) : Prop := fX11_isFeature N σ a1 (fun (r2 : Int32) (σ1 : St) => ((r2 = 0 → Q (-1 : Int32) σ1) ∧ (¬ r2 = 0 → fX11_isWriter N σ1 a2 (fun (r5 : Int32) (σ4 : St) => ((r5 = 0 → Q (-1 : Int32) σ4) ∧ (¬ r5 = 0 → fX11_isWriter N σ4 a3 (fun (r8 : Int32) (σ7 : St) => ((r8 = 0 → Q (-1 : Int32) σ7) ∧ (¬ r8 = 0 → ((¬ a2 = a3 → fX11_handOf N σ7 a2 (-9 : Int32) (fun (r12 : Int32) (σ11 : St) => fX11_handOf N σ11 a3 (-9 : Int32) (fun (r14 : Int32) (σ13 : St) => ((r12 = 0 → fX11_shuffle_b57 N a1 a2 a3 Q σ13) ∧ (¬ r12 = 0 → ((¬ r14 = 0 → fX11_setCounts N σ13 (fun (σ19 : St) => fX11_bits N σ19 r12 (fun (r21 : Int32) (σ20 : St) => fX11_apart N σ20 a1 r12 r14 (fun (r23 : Int32) (σ22 : St) => fX11_shuffle_l101 N a1 a2 a3 Q (fun (σ32 : St) (u170_9 : Int32) (u170_10 : Int32) => ∀ σ33 : St, σ33 = setJ σ32 11 0 2 ((u170_10).toInt64) → Q u170_9 σ33) N σ22 (r12 ||| r14) r21 r23 (0 : Int32) (0 : Int32) (0 : Int32))))) ∧ (r14 = 0 → fX11_shuffle_b57 N a1 a2 a3 Q σ13))))))) ∧ (a2 = a3 → Q (-1 : Int32) σ7)))))))))))
set_option maxHeartbeats 4000000 in
set_option maxRecDepth 100000 in
theorem eX11_shuffle {l : Launch} {E : EC} {lay : Nat → Nat → Nat} {L : List (Nat × Nat)} {A : Nat → Prop} {N : Nat} {σ : St} {a1 : Int32} {a2 : Int32} {a3 : Int32} {Q : Int32 → St → Prop} (hf : fX11_shuffle N σ a1 a2 a3 Q) (hm0 : (11, 0) ∈ L) : Met l yX11_shuffle (.code yX11_shuffle cX11_shuffle 12 (some .int) :: big) rmX11_shuffle (va_Pc [.ref (lay 11 0), .int a1, .int a2, .int a3] (Bp E lay L A σ)) (va_Qi Q (Bd E lay L A) A) 0 0 A := by
  refine x_met (by decide +kernel) (Nat.le_of_ble_eq_true rfl) ?_
  intro p e s m args below meth c ls C hret hw hl
  have hx := C.1
  have hb := C.2.1
  have hl : lv_has ls 12 [(0, .ref (lay 11 0)), (1, .int a1), (2, .int a2), (3, .int a3)] := hl
  unfold fX11_shuffle at hf
  refine lv_aload_n hx hb dX11_shuffle_0 rfl (lv_at hl 0 rfl) ?_
  refine lv_iload_n hx hb dX11_shuffle_1 rfl (lv_at hl 1 rfl) ?_
  refine x_runi hw (x_V (n := 1) (rest := []) C hw hm0 (by decide) (eX11_isFeature hf hm0) q1055 q1057 q27 q53 q1058 rfl rfl (by decide +kernel) ⟨Nat.le_of_ble_eq_true rfl, Nat.le_of_ble_eq_true rfl⟩ rfl hl.1 rfl (Nat.le_of_ble_eq_true rfl) dX11_shuffle_2) (fun r2 σ1 H locs hf hw => ?_)
  have hzr2 := hf.2
  replace hf := hf.1
  try dsimp only at hf
  refine lv_if_eq (tgt := 27) hx hb dX11_shuffle_5 (by decide) (fun c3 => ?_) (fun c3 => ?_)
  · replace hf := hf.1 c3
    refine lv_iconst (v := (-1)) hx hb dX11_shuffle_27 (by decide) ?_
    exact x_iret C hret hw hf dX11_shuffle_28
  · replace hf := hf.2 c3
    refine lv_iload_n hx hb dX11_shuffle_8 rfl (lv_at hl 2 rfl) ?_
    refine x_runi hw (x_S (n := 1) (rest := []) C hw (eX11_isWriter hf) q1094 q1095 q53 q1096 rfl rfl (by decide +kernel) ⟨Nat.le_of_ble_eq_true rfl, Nat.le_of_ble_eq_true rfl⟩ rfl hl.1 rfl (Nat.le_of_ble_eq_true rfl) dX11_shuffle_9) (fun r5 σ4 H locs hf hw => ?_)
    have hzr5 := hf.2
    replace hf := hf.1
    try dsimp only at hf
    refine lv_if_eq (tgt := 27) hx hb dX11_shuffle_12 (by decide) (fun c6 => ?_) (fun c6 => ?_)
    · replace hf := hf.1 c6
      refine lv_iconst (v := (-1)) hx hb dX11_shuffle_27 (by decide) ?_
      exact x_iret C hret hw hf dX11_shuffle_28
    · replace hf := hf.2 c6
      refine lv_iload_n hx hb dX11_shuffle_15 rfl (lv_at hl 3 rfl) ?_
      refine x_runi hw (x_S (n := 1) (rest := []) C hw (eX11_isWriter hf) q1094 q1095 q53 q1096 rfl rfl (by decide +kernel) ⟨Nat.le_of_ble_eq_true rfl, Nat.le_of_ble_eq_true rfl⟩ rfl hl.1 rfl (Nat.le_of_ble_eq_true rfl) dX11_shuffle_16) (fun r8 σ7 H locs hf hw => ?_)
      have hzr8 := hf.2
      replace hf := hf.1
      try dsimp only at hf
      refine lv_if_eq (tgt := 27) hx hb dX11_shuffle_19 (by decide) (fun c9 => ?_) (fun c9 => ?_)
      · replace hf := hf.1 c9
        refine lv_iconst (v := (-1)) hx hb dX11_shuffle_27 (by decide) ?_
        exact x_iret C hret hw hf dX11_shuffle_28
      · replace hf := hf.2 c9
        refine lv_iload_n hx hb dX11_shuffle_22 rfl (lv_at hl 2 rfl) ?_
        refine lv_iload_n hx hb dX11_shuffle_23 rfl (lv_at hl 3 rfl) ?_
        refine lv_icmp_ne (tgt := 29) hx hb dX11_shuffle_24 (by decide) (fun c10 => ?_) (fun c10 => ?_)
        · replace hf := hf.1 c10
          refine lv_aload_n hx hb dX11_shuffle_29 rfl (lv_at hl 0 rfl) ?_
          refine lv_iload_n hx hb dX11_shuffle_30 rfl (lv_at hl 2 rfl) ?_
          refine lv_bipush (v := (-9)) hx hb dX11_shuffle_31 (by decide) ?_
          refine x_runi hw (x_V (n := 2) (rest := []) C hw hm0 (by decide) (eX11_handOf hf hm0) q1097 q1099 q34 q53 q1100 rfl rfl (by decide +kernel) ⟨Nat.le_of_ble_eq_true rfl, Nat.le_of_ble_eq_true rfl⟩ rfl hl.1 rfl (Nat.le_of_ble_eq_true rfl) dX11_shuffle_33) (fun r12 σ11 H locs hf hw => ?_)
          try dsimp only at hf
          refine lv_istore (lv' := [(4, .int r12), (0, .ref (lay 11 0)), (1, .int a1), (2, .int a2), (3, .int a3)]) hx hb dX11_shuffle_36 hl (by decide) rfl (fun ls hl => ?_)
          refine lv_aload_n hx hb dX11_shuffle_38 rfl (lv_at hl 1 rfl) ?_
          refine lv_iload_n hx hb dX11_shuffle_39 rfl (lv_at hl 4 rfl) ?_
          refine lv_bipush (v := (-9)) hx hb dX11_shuffle_40 (by decide) ?_
          refine x_runi hw (x_V (n := 2) (rest := []) C hw hm0 (by decide) (eX11_handOf hf hm0) q1097 q1099 q34 q53 q1100 rfl rfl (by decide +kernel) ⟨Nat.le_of_ble_eq_true rfl, Nat.le_of_ble_eq_true rfl⟩ rfl hl.1 rfl (Nat.le_of_ble_eq_true rfl) dX11_shuffle_42) (fun r14 σ13 H locs hf hw => ?_)
          try dsimp only at hf
          refine lv_istore (lv' := [(5, .int r14), (4, .int r12), (0, .ref (lay 11 0)), (1, .int a1), (2, .int a2), (3, .int a3)]) hx hb dX11_shuffle_45 hl (by decide) rfl (fun ls hl => ?_)
          refine lv_iload hx hb dX11_shuffle_47 (lv_at hl 1 rfl) ?_
          refine lv_if_eq (tgt := 57) hx hb dX11_shuffle_49 (by decide) (fun c15 => ?_) (fun c15 => ?_)
          · replace hf := hf.1 c15
            exact eX11_shuffle_b57 C hret hm0 σ13 _ _ _ hf hw (lv_sub hl [2] rfl)
          · replace hf := hf.2 c15
            refine lv_iload hx hb dX11_shuffle_52 (lv_at hl 0 rfl) ?_
            refine lv_if_ne (tgt := 63) hx hb dX11_shuffle_54 (by decide) (fun c18 => ?_) (fun c18 => ?_)
            · replace hf := hf.1 c18
              refine lv_aload_n hx hb dX11_shuffle_63 rfl (lv_at hl 2 rfl) ?_
              refine x_runv hw (x_V (n := 0) (rest := []) C hw hm0 (by decide) (eX11_setCounts hf hm0) q1079 q1081 q32 q53 q1082 rfl rfl (by decide +kernel) ⟨Nat.le_of_ble_eq_true rfl, Nat.le_of_ble_eq_true rfl⟩ rfl hl.1 rfl (Nat.le_of_ble_eq_true rfl) dX11_shuffle_64) (fun σ19 H locs hf hw => ?_)
              try dsimp only at hf
              refine lv_iload hx hb dX11_shuffle_67 (lv_at hl 1 rfl) ?_
              refine lv_iload hx hb dX11_shuffle_69 (lv_at hl 0 rfl) ?_
              refine lv_ior hx hb dX11_shuffle_71 ?_
              refine lv_istore (lv' := [(6, .int (r12 ||| r14)), (5, .int r14), (4, .int r12), (0, .ref (lay 11 0)), (1, .int a1), (2, .int a2), (3, .int a3)]) hx hb dX11_shuffle_72 hl (by decide) rfl (fun ls hl => ?_)
              refine lv_iload hx hb dX11_shuffle_74 (lv_at hl 2 rfl) ?_
              refine x_runi hw (x_S (n := 1) (rest := []) C hw (eX11_bits hf) q1184 q1185 q53 q1186 rfl rfl (by decide +kernel) ⟨Nat.le_of_ble_eq_true rfl, Nat.le_of_ble_eq_true rfl⟩ rfl hl.1 rfl (Nat.le_of_ble_eq_true rfl) dX11_shuffle_76) (fun r21 σ20 H locs hf hw => ?_)
              try dsimp only at hf
              refine lv_istore (lv' := [(7, .int r21), (6, .int (r12 ||| r14)), (5, .int r14), (4, .int r12), (0, .ref (lay 11 0)), (1, .int a1), (2, .int a2), (3, .int a3)]) hx hb dX11_shuffle_79 hl (by decide) rfl (fun ls hl => ?_)
              refine lv_aload_n hx hb dX11_shuffle_81 rfl (lv_at hl 4 rfl) ?_
              refine lv_iload_n hx hb dX11_shuffle_82 rfl (lv_at hl 5 rfl) ?_
              refine lv_iload hx hb dX11_shuffle_83 (lv_at hl 3 rfl) ?_
              refine lv_iload hx hb dX11_shuffle_85 (lv_at hl 2 rfl) ?_
              refine x_runi hw (x_V (n := 3) (rest := []) C hw hm0 (by decide) (eX11_apart hf hm0) q1187 q1189 q41 q53 q1190 rfl rfl (by decide +kernel) ⟨Nat.le_of_ble_eq_true rfl, Nat.le_of_ble_eq_true rfl⟩ rfl hl.1 rfl (Nat.le_of_ble_eq_true rfl) dX11_shuffle_87) (fun r23 σ22 H locs hf hw => ?_)
              try dsimp only at hf
              refine lv_istore (lv' := [(8, .int r23), (7, .int r21), (6, .int (r12 ||| r14)), (5, .int r14), (4, .int r12), (0, .ref (lay 11 0)), (1, .int a1), (2, .int a2), (3, .int a3)]) hx hb dX11_shuffle_90 hl (by decide) rfl (fun ls hl => ?_)
              refine lv_iconst (v := 0) hx hb dX11_shuffle_92 (by decide) ?_
              refine lv_istore (lv' := [(9, .int (0 : Int32)), (8, .int r23), (7, .int r21), (6, .int (r12 ||| r14)), (5, .int r14), (4, .int r12), (0, .ref (lay 11 0)), (1, .int a1), (2, .int a2), (3, .int a3)]) hx hb dX11_shuffle_93 hl (by decide) rfl (fun ls hl => ?_)
              refine lv_iconst (v := 0) hx hb dX11_shuffle_95 (by decide) ?_
              refine lv_istore (lv' := [(10, .int (0 : Int32)), (9, .int (0 : Int32)), (8, .int r23), (7, .int r21), (6, .int (r12 ||| r14)), (5, .int r14), (4, .int r12), (0, .ref (lay 11 0)), (1, .int a1), (2, .int a2), (3, .int a3)]) hx hb dX11_shuffle_96 hl (by decide) rfl (fun ls hl => ?_)
              refine lv_iconst (v := 0) hx hb dX11_shuffle_98 (by decide) ?_
              refine lv_istore (lv' := [(11, .int (0 : Int32)), (10, .int (0 : Int32)), (9, .int (0 : Int32)), (8, .int r23), (7, .int r21), (6, .int (r12 ||| r14)), (5, .int r14), (4, .int r12), (0, .ref (lay 11 0)), (1, .int a1), (2, .int a2), (3, .int a3)]) hx hb dX11_shuffle_99 hl (by decide) rfl (fun ls hl => ?_)
              refine eX11_shuffle_l101 C hret hm0 ?_ N σ22 (r12 ||| r14) r21 r23 (0 : Int32) (0 : Int32) (0 : Int32) _ _ _ hf hw (lv_sub hl [8, 9, 5, 4, 3, 2, 1, 0] rfl)
              · intro σ32 u170_9 u170_10 H locs ls hf hw hl
                refine lv_aload_n hx hb dX11_shuffle_170 rfl (lv_at hl 0 rfl) ?_
                refine lv_iload hx hb dX11_shuffle_171 (lv_at hl 2 rfl) ?_
                refine lv_i2l hx hb dX11_shuffle_173 rfl ?_
                refine x_putJ (j := 2) C hw hm0 rfl (by decide) (by decide) rfl rfl (by decide +kernel) q882 dX11_shuffle_174 (fun σ33 H locs eσ33 hw => ?_)
                replace hf := hf σ33 eσ33
                refine lv_iload hx hb dX11_shuffle_177 (lv_at hl 1 rfl) ?_
                exact x_iret C hret hw hf dX11_shuffle_179
            · replace hf := hf.2 c18
              exact eX11_shuffle_b57 C hret hm0 σ13 _ _ _ hf hw (lv_sub hl [2] rfl)
        · replace hf := hf.2 c10
          refine lv_iconst (v := (-1)) hx hb dX11_shuffle_27 (by decide) ?_
          exact x_iret C hret hw hf dX11_shuffle_28
-- X11_asked
abbrev rmX11_asked : Room := { frames := 0, cells := 0, slots := 0, locals := 0 }
def fX11_asked (N : Nat) (σ : St) (Q : Int64 → St → Prop) : Prop := Q (sJ σ 11 0 2) σ
set_option maxHeartbeats 4000000 in
set_option maxRecDepth 100000 in
theorem eX11_asked {l : Launch} {E : EC} {lay : Nat → Nat → Nat} {L : List (Nat × Nat)} {A : Nat → Prop} {N : Nat} {σ : St} {Q : Int64 → St → Prop} (hf : fX11_asked N σ Q) (hm0 : (11, 0) ∈ L) : Met l yX11_asked (.code yX11_asked cX11_asked 1 (some .long) :: big) rmX11_asked (va_Pc [.ref (lay 11 0)] (Bp E lay L A σ)) (va_Ql Q (Bd E lay L A) A) 0 0 A := by
  refine x_met (by decide +kernel) (Nat.le_of_ble_eq_true rfl) ?_
  intro p e s m args below meth c ls C hret hw hl
  have hx := C.1
  have hb := C.2.1
  have hl : lv_has ls 1 [(0, .ref (lay 11 0))] := hl
  unfold fX11_asked at hf
  refine lv_aload_n hx hb dX11_asked_0 rfl (lv_at hl 0 rfl) ?_
  refine x_get (v := .long (sJ σ 11 0 2)) (j := 2) C hw hm0 rfl (by decide) (by decide) rfl q882 dX11_asked_1 ?_
  exact x_lret C hret hw hf dX11_asked_4
-- X11_tellsCount
abbrev rmX11_tellsCount : Room := { frames := 0, cells := 0, slots := 0, locals := 0 }
def fX11_tellsCount_b27_4 (N : Nat) (a1 : Int32) (Q : Int32 → St → Prop) (Kh : St → Int32 → Int32 → Prop) (Kx35 : St → Int32 → Prop) (σ : St) (v3 : Int32) (t0 : Int32) (t1 : Int32) : Prop := Kh σ (t1 + t0) (v3 + (1 : Int32))
def fX11_tellsCount_l4 (N : Nat) (a1 : Int32) (Q : Int32 → St → Prop) (Kx35 : St → Int32 → Prop) : Nat → St → Int32 → Int32 → Prop
  | 0, _, _, _ => False
  | n + 1, σ, v2, v3 => (((sF σ 11 0 6) ≤ v3 → Kx35 σ v2) ∧ (¬ (sF σ 11 0 6) ≤ v3 → (vp_in v3 15 ∧ (((sA σ 70 0 (v3).toNatClampNeg) = 0 → fX11_tellsCount_b27_4 N a1 Q (fun (σ : St) (w2 : Int32) (w3 : Int32) => fX11_tellsCount_l4 N a1 Q Kx35 n σ w2 w3) Kx35 σ v3 (1 : Int32) v2) ∧ (¬ (sA σ 70 0 (v3).toNatClampNeg) = 0 → fX11_tellsCount_b27_4 N a1 Q (fun (σ : St) (w2 : Int32) (w3 : Int32) => fX11_tellsCount_l4 N a1 Q Kx35 n σ w2 w3) Kx35 σ v3 (0 : Int32) v2)))))
set_option maxHeartbeats 4000000 in
set_option maxRecDepth 100000 in
theorem eX11_tellsCount_b27_4 {p : Program} {l : Launch} {e : Env} {s : State} {m : MethodId} {args : Array Value} {below : List Frame} {meth : Method} {c : Code} {E : EC} {lay : Nat → Nat → Nat} {L : List (Nat × Nat)} {A : Nat → Prop} (C : Cx p s m args c meth yX11_tellsCount.cls cX11_tellsCount 4 E A) (hret : meth.sig.returnType = some .int) {N : Nat} {a1 : Int32} {Q : Int32 → St → Prop} {Kh : St → Int32 → Int32 → Prop} {Kx35 : St → Int32 → Prop} (hm0 : (11, 0) ∈ L) (hKh : ∀ (σ : St) (w2 : Int32) (w3 : Int32) (H : Heap) (locs : List Loc) (ls : Array Slot), Kh σ w2 w3 → Wo E lay L A s σ H locs → lv_has ls 4 [(0, .ref (lay 11 0)), (1, .int a1), (2, .int w2), (3, .int w3)] → W p l e rmX11_tellsCount s m args below meth c H locs 0 0 (MQ below (va_Qi Q (Bd E lay L A) A) args s 0 0 A) (F0 m 4 ls [])) (hK35 : ∀ (σ : St) (w2 : Int32) (H : Heap) (locs : List Loc) (ls : Array Slot), Kx35 σ w2 → Wo E lay L A s σ H locs → lv_has ls 4 [(0, .ref (lay 11 0)), (1, .int a1), (2, .int w2)] → W p l e rmX11_tellsCount s m args below meth c H locs 0 0 (MQ below (va_Qi Q (Bd E lay L A) A) args s 0 0 A) (F0 m 35 ls [])) (σ : St) (v3 : Int32) (t0 : Int32) (t1 : Int32) (H : Heap) (locs : List Loc) (ls : Array Slot) (hf : fX11_tellsCount_b27_4 N a1 Q Kh Kx35 σ v3 t0 t1) (hw : Wo E lay L A s σ H locs) (hl : lv_has ls 4 [(0, .ref (lay 11 0)), (1, .int a1), (3, .int v3)]) : W p l e rmX11_tellsCount s m args below meth c H locs 0 0 (MQ below (va_Qi Q (Bd E lay L A) A) args s 0 0 A) (F0 m 27 ls [.int t0, .int t1]) := by
  have hx := C.1
  have hb := C.2.1
  unfold fX11_tellsCount_b27_4 at hf
  refine lv_iadd hx hb dX11_tellsCount_27 ?_
  refine lv_istore_n (lv' := [(2, .int (t1 + t0)), (0, .ref (lay 11 0)), (1, .int a1), (3, .int v3)]) hx hb dX11_tellsCount_28 rfl hl (by decide) rfl (fun ls hl => ?_)
  refine lv_iinc (v := (v3 + (1 : Int32))) (lv' := [(3, .int (v3 + (1 : Int32))), (2, .int (t1 + t0)), (0, .ref (lay 11 0)), (1, .int a1)]) hx hb dX11_tellsCount_29 hl (k := 3) rfl (by rfl) (by decide) rfl (fun ls hl => ?_)
  refine lv_goto (tgt := 4) hx hb dX11_tellsCount_32 (by decide) ?_
  exact hKh σ (t1 + t0) (v3 + (1 : Int32)) _ _ _ hf hw (lv_sub hl [2, 3, 1, 0] rfl)
set_option maxHeartbeats 4000000 in
set_option maxRecDepth 100000 in
theorem eX11_tellsCount_l4 {p : Program} {l : Launch} {e : Env} {s : State} {m : MethodId} {args : Array Value} {below : List Frame} {meth : Method} {c : Code} {E : EC} {lay : Nat → Nat → Nat} {L : List (Nat × Nat)} {A : Nat → Prop} (C : Cx p s m args c meth yX11_tellsCount.cls cX11_tellsCount 4 E A) (hret : meth.sig.returnType = some .int) {N : Nat} {a1 : Int32} {Q : Int32 → St → Prop} {Kx35 : St → Int32 → Prop} (hm0 : (11, 0) ∈ L) (hK35 : ∀ (σ : St) (w2 : Int32) (H : Heap) (locs : List Loc) (ls : Array Slot), Kx35 σ w2 → Wo E lay L A s σ H locs → lv_has ls 4 [(0, .ref (lay 11 0)), (1, .int a1), (2, .int w2)] → W p l e rmX11_tellsCount s m args below meth c H locs 0 0 (MQ below (va_Qi Q (Bd E lay L A) A) args s 0 0 A) (F0 m 35 ls [])) : ∀ (n : Nat) (σ : St) (v2 : Int32) (v3 : Int32) (H : Heap) (locs : List Loc) (ls : Array Slot), fX11_tellsCount_l4 N a1 Q Kx35 n σ v2 v3 → Wo E lay L A s σ H locs → lv_has ls 4 [(0, .ref (lay 11 0)), (1, .int a1), (2, .int v2), (3, .int v3)] → W p l e rmX11_tellsCount s m args below meth c H locs 0 0 (MQ below (va_Qi Q (Bd E lay L A) A) args s 0 0 A) (F0 m 4 ls []) := by
  have hx := C.1
  have hb := C.2.1
  intro n
  induction n with
  | zero => intro σ v2 v3 H locs ls hf; exact hf.elim
  | succ n ih =>
    intro σ v2 v3 H locs ls hf hw hl
    rw [fX11_tellsCount_l4] at hf
    refine lv_iload_n hx hb dX11_tellsCount_4 rfl (lv_at hl 3 rfl) ?_
    refine lv_aload_n hx hb dX11_tellsCount_5 rfl (lv_at hl 0 rfl) ?_
    refine x_get (v := .int (sF σ 11 0 6)) (j := 6) C hw hm0 rfl (by decide) (by decide) rfl q886 dX11_tellsCount_6 ?_
    refine lv_icmp_ge (tgt := 35) hx hb dX11_tellsCount_9 (by decide) (fun c1 => ?_) (fun c1 => ?_)
    · replace hf := hf.1 c1
      exact hK35 σ v2 _ _ _ hf hw (lv_sub hl [0, 1, 2] rfl)
    · replace hf := hf.2 c1
      refine lv_iload_n hx hb dX11_tellsCount_12 rfl (lv_at hl 2 rfl) ?_
      refine lv_aload_n hx hb dX11_tellsCount_13 rfl (lv_at hl 0 rfl) ?_
      have hm_2 : (70, 0) ∈ L := hw.2.2.2.1 11 0 hm0 10 (by decide) (by decide) rfl
      refine x_get (v := .ref (lay 70 0)) (j := 10) C hw hm0 rfl (by decide) (by decide) rfl q890 dX11_tellsCount_14 ?_
      refine lv_iload_n hx hb dX11_tellsCount_17 rfl (lv_at hl 3 rfl) ?_
      refine x_zald C hw hm_2 (by decide) rfl hf.1 dX11_tellsCount_18 ?_
      replace hf := hf.2
      refine lv_if_eq (tgt := 26) hx hb dX11_tellsCount_19 (by decide) (fun c3 => ?_) (fun c3 => ?_)
      · replace hf := hf.1 c3
        refine lv_iconst (v := 1) hx hb dX11_tellsCount_26 (by decide) ?_
        exact eX11_tellsCount_b27_4 C hret hm0 ih hK35 σ v3 (1 : Int32) v2 _ _ _ hf hw (lv_sub hl [0, 1, 3] rfl)
      · replace hf := hf.2 c3
        refine lv_iconst (v := 0) hx hb dX11_tellsCount_22 (by decide) ?_
        refine lv_goto (tgt := 27) hx hb dX11_tellsCount_23 (by decide) ?_
        exact eX11_tellsCount_b27_4 C hret hm0 ih hK35 σ v3 (0 : Int32) v2 _ _ _ hf hw (lv_sub hl [0, 1, 3] rfl)
def fX11_tellsCount (N : Nat) (σ : St) (a1 : Int32) (Q : Int32 → St → Prop) : Prop := fX11_tellsCount_l4 N a1 Q (fun (σ4 : St) (u35_2 : Int32) => ((¬ a1 = 0 → ((¬ a1 = (1 : Int32) → ((¬ a1 = (2 : Int32) → Q (sF σ4 11 0 24) σ4) ∧ (a1 = (2 : Int32) → Q (sF σ4 11 0 18) σ4))) ∧ (a1 = (1 : Int32) → Q u35_2 σ4))) ∧ (a1 = 0 → Q (sF σ4 11 0 6) σ4))) N σ (0 : Int32) (0 : Int32)
set_option maxHeartbeats 4000000 in
set_option maxRecDepth 100000 in
theorem eX11_tellsCount {l : Launch} {E : EC} {lay : Nat → Nat → Nat} {L : List (Nat × Nat)} {A : Nat → Prop} {N : Nat} {σ : St} {a1 : Int32} {Q : Int32 → St → Prop} (hf : fX11_tellsCount N σ a1 Q) (hm0 : (11, 0) ∈ L) : Met l yX11_tellsCount (.code yX11_tellsCount cX11_tellsCount 4 (some .int) :: big) rmX11_tellsCount (va_Pc [.ref (lay 11 0), .int a1] (Bp E lay L A σ)) (va_Qi Q (Bd E lay L A) A) 0 0 A := by
  refine x_met (by decide +kernel) (Nat.le_of_ble_eq_true rfl) ?_
  intro p e s m args below meth c ls C hret hw hl
  have hx := C.1
  have hb := C.2.1
  have hl : lv_has ls 4 [(0, .ref (lay 11 0)), (1, .int a1)] := hl
  unfold fX11_tellsCount at hf
  refine lv_iconst (v := 0) hx hb dX11_tellsCount_0 (by decide) ?_
  refine lv_istore_n (lv' := [(2, .int (0 : Int32)), (0, .ref (lay 11 0)), (1, .int a1)]) hx hb dX11_tellsCount_1 rfl hl (by decide) rfl (fun ls hl => ?_)
  refine lv_iconst (v := 0) hx hb dX11_tellsCount_2 (by decide) ?_
  refine lv_istore_n (lv' := [(3, .int (0 : Int32)), (2, .int (0 : Int32)), (0, .ref (lay 11 0)), (1, .int a1)]) hx hb dX11_tellsCount_3 rfl hl (by decide) rfl (fun ls hl => ?_)
  refine eX11_tellsCount_l4 C hret hm0 ?_ N σ (0 : Int32) (0 : Int32) _ _ _ hf hw (lv_sub hl [2, 3, 1, 0] rfl)
  · intro σ4 u35_2 H locs ls hf hw hl
    refine lv_iload_n hx hb dX11_tellsCount_35 rfl (lv_at hl 1 rfl) ?_
    refine lv_if_ne (tgt := 46) hx hb dX11_tellsCount_36 (by decide) (fun c5 => ?_) (fun c5 => ?_)
    · replace hf := hf.1 c5
      refine lv_iload_n hx hb dX11_tellsCount_46 rfl (lv_at hl 1 rfl) ?_
      refine lv_iconst (v := 1) hx hb dX11_tellsCount_47 (by decide) ?_
      refine lv_icmp_ne (tgt := 55) hx hb dX11_tellsCount_48 (by decide) (fun c6 => ?_) (fun c6 => ?_)
      · replace hf := hf.1 c6
        refine lv_iload_n hx hb dX11_tellsCount_55 rfl (lv_at hl 1 rfl) ?_
        refine lv_iconst (v := 2) hx hb dX11_tellsCount_56 (by decide) ?_
        refine lv_icmp_ne (tgt := 67) hx hb dX11_tellsCount_57 (by decide) (fun c7 => ?_) (fun c7 => ?_)
        · replace hf := hf.1 c7
          refine lv_aload_n hx hb dX11_tellsCount_67 rfl (lv_at hl 0 rfl) ?_
          refine x_get (v := .int (sF σ4 11 0 24)) (j := 24) C hw hm0 rfl (by decide) (by decide) rfl q904 dX11_tellsCount_68 ?_
          exact x_iret C hret hw hf dX11_tellsCount_71
        · replace hf := hf.2 c7
          refine lv_aload_n hx hb dX11_tellsCount_60 rfl (lv_at hl 0 rfl) ?_
          refine x_get (v := .int (sF σ4 11 0 18)) (j := 18) C hw hm0 rfl (by decide) (by decide) rfl q898 dX11_tellsCount_61 ?_
          refine lv_goto (tgt := 71) hx hb dX11_tellsCount_64 (by decide) ?_
          exact x_iret C hret hw hf dX11_tellsCount_71
      · replace hf := hf.2 c6
        refine lv_iload_n hx hb dX11_tellsCount_51 rfl (lv_at hl 2 rfl) ?_
        refine lv_goto (tgt := 71) hx hb dX11_tellsCount_52 (by decide) ?_
        exact x_iret C hret hw hf dX11_tellsCount_71
    · replace hf := hf.2 c5
      refine lv_aload_n hx hb dX11_tellsCount_39 rfl (lv_at hl 0 rfl) ?_
      refine x_get (v := .int (sF σ4 11 0 6)) (j := 6) C hw hm0 rfl (by decide) (by decide) rfl q886 dX11_tellsCount_40 ?_
      refine lv_goto (tgt := 71) hx hb dX11_tellsCount_43 (by decide) ?_
      exact x_iret C hret hw hf dX11_tellsCount_71
-- X11_count
abbrev rmX11_count : Room := { frames := 1, cells := 0, slots := 0, locals := 23 }
def fX11_count (N : Nat) (σ : St) (a1 : Int32) (Q : Int32 → St → Prop) : Prop := fX11_in N σ a1 (0 : Int32) (3 : Int32) (fun (r2 : Int32) (σ1 : St) => ((r2 = 0 → Q (-1 : Int32) σ1) ∧ (¬ r2 = 0 → fX11_tellsCount N σ1 a1 (fun (r5 : Int32) (σ4 : St) => Q r5 σ4))))
set_option maxHeartbeats 4000000 in
set_option maxRecDepth 100000 in
theorem eX11_count {l : Launch} {E : EC} {lay : Nat → Nat → Nat} {L : List (Nat × Nat)} {A : Nat → Prop} {N : Nat} {σ : St} {a1 : Int32} {Q : Int32 → St → Prop} (hf : fX11_count N σ a1 Q) (hm0 : (11, 0) ∈ L) : Met l yX11_count (.code yX11_count cX11_count 2 (some .int) :: big) rmX11_count (va_Pc [.ref (lay 11 0), .int a1] (Bp E lay L A σ)) (va_Qi Q (Bd E lay L A) A) 0 0 A := by
  refine x_met (by decide +kernel) (Nat.le_of_ble_eq_true rfl) ?_
  intro p e s m args below meth c ls C hret hw hl
  have hx := C.1
  have hb := C.2.1
  have hl : lv_has ls 2 [(0, .ref (lay 11 0)), (1, .int a1)] := hl
  unfold fX11_count at hf
  refine lv_iload_n hx hb dX11_count_0 rfl (lv_at hl 1 rfl) ?_
  refine lv_iconst (v := 0) hx hb dX11_count_1 (by decide) ?_
  refine lv_iconst (v := 3) hx hb dX11_count_2 (by decide) ?_
  refine x_runi hw (x_S (n := 3) (rest := []) C hw (eX11_in hf) q984 q985 q53 q986 rfl rfl (by decide +kernel) ⟨Nat.le_of_ble_eq_true rfl, Nat.le_of_ble_eq_true rfl⟩ rfl hl.1 rfl (Nat.le_of_ble_eq_true rfl) dX11_count_3) (fun r2 σ1 H locs hf hw => ?_)
  have hzr2 := hf.2
  replace hf := hf.1
  try dsimp only at hf
  refine lv_if_eq (tgt := 17) hx hb dX11_count_6 (by decide) (fun c3 => ?_) (fun c3 => ?_)
  · replace hf := hf.1 c3
    refine lv_iconst (v := (-1)) hx hb dX11_count_17 (by decide) ?_
    exact x_iret C hret hw hf dX11_count_18
  · replace hf := hf.2 c3
    refine lv_aload_n hx hb dX11_count_9 rfl (lv_at hl 0 rfl) ?_
    refine lv_iload_n hx hb dX11_count_10 rfl (lv_at hl 1 rfl) ?_
    refine x_runi hw (x_V (n := 1) (rest := []) C hw hm0 (by decide) (eX11_tellsCount hf hm0) q1199 q1201 q42 q53 q1202 rfl rfl (by decide +kernel) ⟨Nat.le_of_ble_eq_true rfl, Nat.le_of_ble_eq_true rfl⟩ rfl hl.1 rfl (Nat.le_of_ble_eq_true rfl) dX11_count_11) (fun r5 σ4 H locs hf hw => ?_)
    try dsimp only at hf
    refine lv_goto (tgt := 18) hx hb dX11_count_14 (by decide) ?_
    exact x_iret C hret hw hf dX11_count_18
-- X11_finding
abbrev rmX11_finding : Room := { frames := 0, cells := 0, slots := 0, locals := 0 }
def fX11_finding (N : Nat) (σ : St) (Q : Int32 → St → Prop) : Prop := Q (sF σ 11 0 0) σ
set_option maxHeartbeats 4000000 in
set_option maxRecDepth 100000 in
theorem eX11_finding {l : Launch} {E : EC} {lay : Nat → Nat → Nat} {L : List (Nat × Nat)} {A : Nat → Prop} {N : Nat} {σ : St} {Q : Int32 → St → Prop} (hf : fX11_finding N σ Q) (hm0 : (11, 0) ∈ L) : Met l yX11_finding (.code yX11_finding cX11_finding 1 (some .int) :: big) rmX11_finding (va_Pc [.ref (lay 11 0)] (Bp E lay L A σ)) (va_Qi Q (Bd E lay L A) A) 0 0 A := by
  refine x_met (by decide +kernel) (Nat.le_of_ble_eq_true rfl) ?_
  intro p e s m args below meth c ls C hret hw hl
  have hx := C.1
  have hb := C.2.1
  have hl : lv_has ls 1 [(0, .ref (lay 11 0))] := hl
  unfold fX11_finding at hf
  refine lv_aload_n hx hb dX11_finding_0 rfl (lv_at hl 0 rfl) ?_
  refine x_get (v := .int (sF σ 11 0 0)) (j := 0) C hw hm0 rfl (by decide) (by decide) rfl q880 dX11_finding_1 ?_
  exact x_iret C hret hw hf dX11_finding_4
-- X11_findings
abbrev rmX11_findings : Room := { frames := 1, cells := 0, slots := 0, locals := 22 }
def fX11_findings (N : Nat) (σ : St) (a1 : Int32) (Q : Int32 → St → Prop) : Prop := fX11_in N σ a1 (1 : Int32) (5 : Int32) (fun (r2 : Int32) (σ1 : St) => ((r2 = 0 → Q (-1 : Int32) σ1) ∧ (¬ r2 = 0 → (vp_in a1 6 ∧ Q (sA σ1 61 0 (a1).toNatClampNeg) σ1))))
set_option maxHeartbeats 4000000 in
set_option maxRecDepth 100000 in
theorem eX11_findings {l : Launch} {E : EC} {lay : Nat → Nat → Nat} {L : List (Nat × Nat)} {A : Nat → Prop} {N : Nat} {σ : St} {a1 : Int32} {Q : Int32 → St → Prop} (hf : fX11_findings N σ a1 Q) (hm0 : (11, 0) ∈ L) : Met l yX11_findings (.code yX11_findings cX11_findings 2 (some .int) :: big) rmX11_findings (va_Pc [.ref (lay 11 0), .int a1] (Bp E lay L A σ)) (va_Qi Q (Bd E lay L A) A) 0 0 A := by
  refine x_met (by decide +kernel) (Nat.le_of_ble_eq_true rfl) ?_
  intro p e s m args below meth c ls C hret hw hl
  have hx := C.1
  have hb := C.2.1
  have hl : lv_has ls 2 [(0, .ref (lay 11 0)), (1, .int a1)] := hl
  unfold fX11_findings at hf
  refine lv_iload_n hx hb dX11_findings_0 rfl (lv_at hl 1 rfl) ?_
  refine lv_iconst (v := 1) hx hb dX11_findings_1 (by decide) ?_
  refine lv_iconst (v := 5) hx hb dX11_findings_2 (by decide) ?_
  refine x_runi hw (x_S (n := 3) (rest := []) C hw (eX11_in hf) q984 q985 q53 q986 rfl rfl (by decide +kernel) ⟨Nat.le_of_ble_eq_true rfl, Nat.le_of_ble_eq_true rfl⟩ rfl hl.1 rfl (Nat.le_of_ble_eq_true rfl) dX11_findings_3) (fun r2 σ1 H locs hf hw => ?_)
  have hzr2 := hf.2
  replace hf := hf.1
  try dsimp only at hf
  refine lv_if_eq (tgt := 18) hx hb dX11_findings_6 (by decide) (fun c3 => ?_) (fun c3 => ?_)
  · replace hf := hf.1 c3
    refine lv_iconst (v := (-1)) hx hb dX11_findings_18 (by decide) ?_
    exact x_iret C hret hw hf dX11_findings_19
  · replace hf := hf.2 c3
    refine lv_aload_n hx hb dX11_findings_9 rfl (lv_at hl 0 rfl) ?_
    have hm_4 : (61, 0) ∈ L := hw.2.2.2.1 11 0 hm0 1 (by decide) (by decide) rfl
    refine x_get (v := .ref (lay 61 0)) (j := 1) C hw hm0 rfl (by decide) (by decide) rfl q881 dX11_findings_10 ?_
    refine lv_iload_n hx hb dX11_findings_13 rfl (lv_at hl 1 rfl) ?_
    refine x_iald C hw hm_4 (by decide) rfl hf.1 dX11_findings_14 ?_
    replace hf := hf.2
    refine lv_goto (tgt := 19) hx hb dX11_findings_15 (by decide) ?_
    exact x_iret C hret hw hf dX11_findings_19
-- X11_digest
abbrev rmX11_digest : Room := { frames := 3, cells := 0, slots := 0, locals := 77 }
def fX11_digest_l6 (N : Nat) (Q : Int64 → St → Prop) (Kx30 : St → Int64 → Prop) : Nat → St → Int64 → Int32 → Prop
  | 0, _, _, _ => False
  | n + 1, σ, v1, v3 => (((3 : Int32) < v3 → Kx30 σ v1) ∧ (¬ (3 : Int32) < v3 → fX11_tellsCount N σ v3 (fun (r3 : Int32) (σ2 : St) => fX11_digest_l6 N Q Kx30 n σ2 (((31 : Int64) * v1) + ((r3).toInt64)) (v3 + (1 : Int32)))))
def fX11_digest_l60 (N : Nat) (Q : Int64 → St → Prop) (Kx96 : St → Int64 → Int32 → Prop) : Nat → St → Int64 → Int32 → Int32 → Prop
  | 0, _, _, _, _ => False
  | n + 1, σ, v1, v3, v4 => (((4 : Int32) < v4 → Kx96 σ v1 v3) ∧ (¬ (4 : Int32) < v4 → (vp_in v3 15 ∧ ((¬ (sA σ 70 0 (v3).toNatClampNeg) = 0 → Kx96 σ v1 v3) ∧ ((sA σ 70 0 (v3).toNatClampNeg) = 0 → fX11_tells N σ v3 v4 (fun (r12 : Int32) (σ11 : St) => fX11_digest_l60 N Q Kx96 n σ11 (((31 : Int64) * v1) + ((r12).toInt64)) v3 (v4 + (1 : Int32))))))))
def fX11_digest_l99 (N : Nat) (Q : Int64 → St → Prop) (Kx138 : St → Int64 → Int32 → Prop) : Nat → St → Int64 → Int32 → Int32 → Prop
  | 0, _, _, _, _ => False
  | n + 1, σ, v1, v3, v4 => (((sF σ 11 0 18) ≤ v4 → Kx138 σ v1 v3) ∧ (¬ (sF σ 11 0 18) ≤ v4 → (vp_in v3 15 ∧ ((¬ (sA σ 70 0 (v3).toNatClampNeg) = 0 → Kx138 σ v1 v3) ∧ ((sA σ 70 0 (v3).toNatClampNeg) = 0 → fX11_countOf N σ v4 v3 (fun (r18 : Int32) (σ17 : St) => fX11_digest_l99 N Q Kx138 n σ17 (((31 : Int64) * v1) + ((r18).toInt64)) v3 (v4 + (1 : Int32))))))))
def fX11_digest_b138_32 (N : Nat) (Q : Int64 → St → Prop) (Kh : St → Int64 → Int32 → Prop) (Kx144 : St → Int64 → Prop) (σ : St) (v1 : Int64) (v3 : Int32) : Prop := Kh σ v1 (v3 + (1 : Int32))
def fX11_digest_b96_32 (N : Nat) (Q : Int64 → St → Prop) (Kh : St → Int64 → Int32 → Prop) (Kx144 : St → Int64 → Prop) (σ : St) (v1 : Int64) (v3 : Int32) : Prop := fX11_digest_l99 N Q (fun (σ19 : St) (u138_1 : Int64) (u138_3 : Int32) => fX11_digest_b138_32 N Q Kh Kx144 σ19 u138_1 u138_3) N σ v1 v3 (0 : Int32)
def fX11_digest_b57_32 (N : Nat) (Q : Int64 → St → Prop) (Kh : St → Int64 → Int32 → Prop) (Kx144 : St → Int64 → Prop) (σ : St) (v1 : Int64) (v3 : Int32) : Prop := fX11_digest_l60 N Q (fun (σ13 : St) (u96_1 : Int64) (u96_3 : Int32) => fX11_digest_b96_32 N Q Kh Kx144 σ13 u96_1 u96_3) N σ v1 v3 (0 : Int32)
def fX11_digest_l32 (N : Nat) (Q : Int64 → St → Prop) (Kx144 : St → Int64 → Prop) : Nat → St → Int64 → Int32 → Prop
  | 0, _, _, _ => False
  | n + 1, σ, v1, v3 => (((sF σ 11 0 6) ≤ v3 → Kx144 σ v1) ∧ (¬ (sF σ 11 0 6) ≤ v3 → (vp_in v3 15 ∧ (((sA σ 70 0 (v3).toNatClampNeg) = 0 → fX11_digest_b57_32 N Q (fun (σ : St) (w1 : Int64) (w3 : Int32) => fX11_digest_l32 N Q Kx144 n σ w1 w3) Kx144 σ v1 v3) ∧ (¬ (sA σ 70 0 (v3).toNatClampNeg) = 0 → fX11_digest_b57_32 N Q (fun (σ : St) (w1 : Int64) (w3 : Int32) => fX11_digest_l32 N Q Kx144 n σ w1 w3) Kx144 σ (((31 : Int64) * v1) - (1 : Int64)) v3)))))
def fX11_digest_l181 (N : Nat) (Q : Int64 → St → Prop) (Kx219 : St → Int64 → Int32 → Prop) : Nat → St → Int64 → Int32 → Int32 → Prop
  | 0, _, _, _, _ => False
  | n + 1, σ, v1, v3, v4 => (vp_in v3 4 ∧ (((sA σ 63 0 (v3).toNatClampNeg) ≤ v4 → Kx219 σ v1 v3) ∧ (¬ (sA σ 63 0 (v3).toNatClampNeg) ≤ v4 → (vp_in (((200 : Int32) * v3) + v4) 800 ∧ ∀ x28 : Int64, x28 = (((31 : Int64) * v1) + (((sA σ 64 0 ((((200 : Int32) * v3) + v4)).toNatClampNeg)).toInt64)) → fX11_digest_l181 N Q Kx219 n σ x28 v3 (v4 + (1 : Int32))))))
def fX11_digest_b175_146 (N : Nat) (Q : Int64 → St → Prop) (Kh : St → Int64 → Int32 → Prop) (Kx225 : St → Int64 → Prop) (σ : St) (v3 : Int32) (t0 : Int32) (t1 : Int64) : Prop := fX11_digest_l181 N Q (fun (σ29 : St) (u219_1 : Int64) (u219_3 : Int32) => Kh σ29 u219_1 (u219_3 + (1 : Int32))) N σ (t1 + ((t0).toInt64)) v3 (0 : Int32)
def fX11_digest_l146 (N : Nat) (Q : Int64 → St → Prop) (Kx225 : St → Int64 → Prop) : Nat → St → Int64 → Int32 → Prop
  | 0, _, _, _ => False
  | n + 1, σ, v1, v3 => (((4 : Int32) ≤ v3 → Kx225 σ v1) ∧ (¬ (4 : Int32) ≤ v3 → (vp_in v3 4 ∧ ((0 ≤ (sA σ 63 0 (v3).toNatClampNeg) → (vp_in v3 4 ∧ fX11_digest_b175_146 N Q (fun (σ : St) (w1 : Int64) (w3 : Int32) => fX11_digest_l146 N Q Kx225 n σ w1 w3) Kx225 σ v3 (sA σ 63 0 (v3).toNatClampNeg) ((31 : Int64) * v1))) ∧ (¬ 0 ≤ (sA σ 63 0 (v3).toNatClampNeg) → fX11_digest_b175_146 N Q (fun (σ : St) (w1 : Int64) (w3 : Int32) => fX11_digest_l146 N Q Kx225 n σ w1 w3) Kx225 σ v3 (-1 : Int32) ((31 : Int64) * v1))))))
set_option maxHeartbeats 4000000 in
set_option maxRecDepth 100000 in
theorem eX11_digest_l6 {p : Program} {l : Launch} {e : Env} {s : State} {m : MethodId} {args : Array Value} {below : List Frame} {meth : Method} {c : Code} {E : EC} {lay : Nat → Nat → Nat} {L : List (Nat × Nat)} {A : Nat → Prop} (C : Cx p s m args c meth yX11_digest.cls cX11_digest 5 E A) (hret : meth.sig.returnType = some .long) {N : Nat} {Q : Int64 → St → Prop} {Kx30 : St → Int64 → Prop} (hm0 : (11, 0) ∈ L) (hK30 : ∀ (σ : St) (w1 : Int64) (H : Heap) (locs : List Loc) (ls : Array Slot), Kx30 σ w1 → Wo E lay L A s σ H locs → lv_has ls 5 [(0, .ref (lay 11 0)), (1, .long w1)] → W p l e rmX11_digest s m args below meth c H locs 0 0 (MQ below (va_Ql Q (Bd E lay L A) A) args s 0 0 A) (F0 m 30 ls [])) : ∀ (n : Nat) (σ : St) (v1 : Int64) (v3 : Int32) (H : Heap) (locs : List Loc) (ls : Array Slot), fX11_digest_l6 N Q Kx30 n σ v1 v3 → Wo E lay L A s σ H locs → lv_has ls 5 [(0, .ref (lay 11 0)), (1, .long v1), (3, .int v3)] → W p l e rmX11_digest s m args below meth c H locs 0 0 (MQ below (va_Ql Q (Bd E lay L A) A) args s 0 0 A) (F0 m 6 ls []) := by
  have hx := C.1
  have hb := C.2.1
  intro n
  induction n with
  | zero => intro σ v1 v3 H locs ls hf; exact hf.elim
  | succ n ih =>
    intro σ v1 v3 H locs ls hf hw hl
    rw [fX11_digest_l6] at hf
    refine lv_iload_n hx hb dX11_digest_6 rfl (lv_at hl 2 rfl) ?_
    refine lv_iconst (v := 3) hx hb dX11_digest_7 (by decide) ?_
    refine lv_icmp_gt (tgt := 30) hx hb dX11_digest_8 (by decide) (fun c1 => ?_) (fun c1 => ?_)
    · replace hf := hf.1 c1
      exact hK30 σ v1 _ _ _ hf hw (lv_sub hl [0, 1] rfl)
    · replace hf := hf.2 c1
      refine lv_ldc2 (v := 31) hx hb C.2.2.2.1 (C.2.2.2.2.1 _ q1216) dX11_digest_11 ?_
      refine lv_lload_n hx hb dX11_digest_14 rfl (lv_at hl 1 rfl) ?_
      refine lv_lmul hx hb dX11_digest_15 ?_
      refine lv_aload_n hx hb dX11_digest_16 rfl (lv_at hl 0 rfl) ?_
      refine lv_iload_n hx hb dX11_digest_17 rfl (lv_at hl 2 rfl) ?_
      refine x_runi hw (x_V (n := 1) (rest := [.long ((31 : Int64) * v1)]) C hw hm0 (by decide) (eX11_tellsCount hf hm0) q1199 q1201 q42 q53 q1202 rfl rfl (by decide +kernel) ⟨Nat.le_of_ble_eq_true rfl, Nat.le_of_ble_eq_true rfl⟩ rfl hl.1 rfl (Nat.le_of_ble_eq_true rfl) dX11_digest_18) (fun r3 σ2 H locs hf hw => ?_)
      try dsimp only at hf
      refine lv_i2l hx hb dX11_digest_21 rfl ?_
      refine lv_ladd hx hb dX11_digest_22 ?_
      refine lv_lstore_n (lv' := [(1, .long (((31 : Int64) * v1) + ((r3).toInt64))), (0, .ref (lay 11 0)), (3, .int v3)]) hx hb dX11_digest_23 rfl hl (by decide) rfl (fun ls hl => ?_)
      refine lv_iinc (v := (v3 + (1 : Int32))) (lv' := [(3, .int (v3 + (1 : Int32))), (1, .long (((31 : Int64) * v1) + ((r3).toInt64))), (0, .ref (lay 11 0))]) hx hb dX11_digest_24 hl (k := 2) rfl (by rfl) (by decide) rfl (fun ls hl => ?_)
      refine lv_goto (tgt := 6) hx hb dX11_digest_27 (by decide) ?_
      exact ih σ2 (((31 : Int64) * v1) + ((r3).toInt64)) (v3 + (1 : Int32)) _ _ _ hf hw (lv_sub hl [2, 1, 0] rfl)
set_option maxHeartbeats 4000000 in
set_option maxRecDepth 100000 in
theorem eX11_digest_l60 {p : Program} {l : Launch} {e : Env} {s : State} {m : MethodId} {args : Array Value} {below : List Frame} {meth : Method} {c : Code} {E : EC} {lay : Nat → Nat → Nat} {L : List (Nat × Nat)} {A : Nat → Prop} (C : Cx p s m args c meth yX11_digest.cls cX11_digest 5 E A) (hret : meth.sig.returnType = some .long) {N : Nat} {Q : Int64 → St → Prop} {Kx96 : St → Int64 → Int32 → Prop} (hm0 : (11, 0) ∈ L) (hK96 : ∀ (σ : St) (w1 : Int64) (w3 : Int32) (H : Heap) (locs : List Loc) (ls : Array Slot), Kx96 σ w1 w3 → Wo E lay L A s σ H locs → lv_has ls 5 [(0, .ref (lay 11 0)), (1, .long w1), (3, .int w3)] → W p l e rmX11_digest s m args below meth c H locs 0 0 (MQ below (va_Ql Q (Bd E lay L A) A) args s 0 0 A) (F0 m 96 ls [])) : ∀ (n : Nat) (σ : St) (v1 : Int64) (v3 : Int32) (v4 : Int32) (H : Heap) (locs : List Loc) (ls : Array Slot), fX11_digest_l60 N Q Kx96 n σ v1 v3 v4 → Wo E lay L A s σ H locs → lv_has ls 5 [(0, .ref (lay 11 0)), (1, .long v1), (3, .int v3), (4, .int v4)] → W p l e rmX11_digest s m args below meth c H locs 0 0 (MQ below (va_Ql Q (Bd E lay L A) A) args s 0 0 A) (F0 m 60 ls []) := by
  have hx := C.1
  have hb := C.2.1
  intro n
  induction n with
  | zero => intro σ v1 v3 v4 H locs ls hf; exact hf.elim
  | succ n ih =>
    intro σ v1 v3 v4 H locs ls hf hw hl
    rw [fX11_digest_l60] at hf
    refine lv_iload hx hb dX11_digest_60 (lv_at hl 3 rfl) ?_
    refine lv_iconst (v := 4) hx hb dX11_digest_62 (by decide) ?_
    refine lv_icmp_gt (tgt := 96) hx hb dX11_digest_63 (by decide) (fun c8 => ?_) (fun c8 => ?_)
    · replace hf := hf.1 c8
      exact hK96 σ v1 v3 _ _ _ hf hw (lv_sub hl [0, 1, 2] rfl)
    · replace hf := hf.2 c8
      refine lv_aload_n hx hb dX11_digest_66 rfl (lv_at hl 0 rfl) ?_
      have hm_9 : (70, 0) ∈ L := hw.2.2.2.1 11 0 hm0 10 (by decide) (by decide) rfl
      refine x_get (v := .ref (lay 70 0)) (j := 10) C hw hm0 rfl (by decide) (by decide) rfl q890 dX11_digest_67 ?_
      refine lv_iload_n hx hb dX11_digest_70 rfl (lv_at hl 2 rfl) ?_
      refine x_zald C hw hm_9 (by decide) rfl hf.1 dX11_digest_71 ?_
      replace hf := hf.2
      refine lv_if_ne (tgt := 96) hx hb dX11_digest_72 (by decide) (fun c10 => ?_) (fun c10 => ?_)
      · replace hf := hf.1 c10
        exact hK96 σ v1 v3 _ _ _ hf hw (lv_sub hl [0, 1, 2] rfl)
      · replace hf := hf.2 c10
        refine lv_ldc2 (v := 31) hx hb C.2.2.2.1 (C.2.2.2.2.1 _ q1216) dX11_digest_75 ?_
        refine lv_lload_n hx hb dX11_digest_78 rfl (lv_at hl 1 rfl) ?_
        refine lv_lmul hx hb dX11_digest_79 ?_
        refine lv_aload_n hx hb dX11_digest_80 rfl (lv_at hl 0 rfl) ?_
        refine lv_iload_n hx hb dX11_digest_81 rfl (lv_at hl 2 rfl) ?_
        refine lv_iload hx hb dX11_digest_82 (lv_at hl 3 rfl) ?_
        refine x_runi hw (x_V (n := 2) (rest := [.long ((31 : Int64) * v1)]) C hw hm0 (by decide) (eX11_tells hf hm0) q1032 q1034 q26 q53 q1035 rfl rfl (by decide +kernel) ⟨Nat.le_of_ble_eq_true rfl, Nat.le_of_ble_eq_true rfl⟩ rfl hl.1 rfl (Nat.le_of_ble_eq_true rfl) dX11_digest_84) (fun r12 σ11 H locs hf hw => ?_)
        try dsimp only at hf
        refine lv_i2l hx hb dX11_digest_87 rfl ?_
        refine lv_ladd hx hb dX11_digest_88 ?_
        refine lv_lstore_n (lv' := [(1, .long (((31 : Int64) * v1) + ((r12).toInt64))), (0, .ref (lay 11 0)), (3, .int v3), (4, .int v4)]) hx hb dX11_digest_89 rfl hl (by decide) rfl (fun ls hl => ?_)
        refine lv_iinc (v := (v4 + (1 : Int32))) (lv' := [(4, .int (v4 + (1 : Int32))), (1, .long (((31 : Int64) * v1) + ((r12).toInt64))), (0, .ref (lay 11 0)), (3, .int v3)]) hx hb dX11_digest_90 hl (k := 3) rfl (by rfl) (by decide) rfl (fun ls hl => ?_)
        refine lv_goto (tgt := 60) hx hb dX11_digest_93 (by decide) ?_
        exact ih σ11 (((31 : Int64) * v1) + ((r12).toInt64)) v3 (v4 + (1 : Int32)) _ _ _ hf hw (lv_sub hl [2, 1, 3, 0] rfl)
set_option maxHeartbeats 4000000 in
set_option maxRecDepth 100000 in
theorem eX11_digest_l99 {p : Program} {l : Launch} {e : Env} {s : State} {m : MethodId} {args : Array Value} {below : List Frame} {meth : Method} {c : Code} {E : EC} {lay : Nat → Nat → Nat} {L : List (Nat × Nat)} {A : Nat → Prop} (C : Cx p s m args c meth yX11_digest.cls cX11_digest 5 E A) (hret : meth.sig.returnType = some .long) {N : Nat} {Q : Int64 → St → Prop} {Kx138 : St → Int64 → Int32 → Prop} (hm0 : (11, 0) ∈ L) (hK138 : ∀ (σ : St) (w1 : Int64) (w3 : Int32) (H : Heap) (locs : List Loc) (ls : Array Slot), Kx138 σ w1 w3 → Wo E lay L A s σ H locs → lv_has ls 5 [(0, .ref (lay 11 0)), (1, .long w1), (3, .int w3)] → W p l e rmX11_digest s m args below meth c H locs 0 0 (MQ below (va_Ql Q (Bd E lay L A) A) args s 0 0 A) (F0 m 138 ls [])) : ∀ (n : Nat) (σ : St) (v1 : Int64) (v3 : Int32) (v4 : Int32) (H : Heap) (locs : List Loc) (ls : Array Slot), fX11_digest_l99 N Q Kx138 n σ v1 v3 v4 → Wo E lay L A s σ H locs → lv_has ls 5 [(0, .ref (lay 11 0)), (1, .long v1), (3, .int v3), (4, .int v4)] → W p l e rmX11_digest s m args below meth c H locs 0 0 (MQ below (va_Ql Q (Bd E lay L A) A) args s 0 0 A) (F0 m 99 ls []) := by
  have hx := C.1
  have hb := C.2.1
  intro n
  induction n with
  | zero => intro σ v1 v3 v4 H locs ls hf; exact hf.elim
  | succ n ih =>
    intro σ v1 v3 v4 H locs ls hf hw hl
    rw [fX11_digest_l99] at hf
    refine lv_iload hx hb dX11_digest_99 (lv_at hl 3 rfl) ?_
    refine lv_aload_n hx hb dX11_digest_101 rfl (lv_at hl 0 rfl) ?_
    refine x_get (v := .int (sF σ 11 0 18)) (j := 18) C hw hm0 rfl (by decide) (by decide) rfl q898 dX11_digest_102 ?_
    refine lv_icmp_ge (tgt := 138) hx hb dX11_digest_105 (by decide) (fun c14 => ?_) (fun c14 => ?_)
    · replace hf := hf.1 c14
      exact hK138 σ v1 v3 _ _ _ hf hw (lv_sub hl [0, 1, 2] rfl)
    · replace hf := hf.2 c14
      refine lv_aload_n hx hb dX11_digest_108 rfl (lv_at hl 0 rfl) ?_
      have hm_15 : (70, 0) ∈ L := hw.2.2.2.1 11 0 hm0 10 (by decide) (by decide) rfl
      refine x_get (v := .ref (lay 70 0)) (j := 10) C hw hm0 rfl (by decide) (by decide) rfl q890 dX11_digest_109 ?_
      refine lv_iload_n hx hb dX11_digest_112 rfl (lv_at hl 2 rfl) ?_
      refine x_zald C hw hm_15 (by decide) rfl hf.1 dX11_digest_113 ?_
      replace hf := hf.2
      refine lv_if_ne (tgt := 138) hx hb dX11_digest_114 (by decide) (fun c16 => ?_) (fun c16 => ?_)
      · replace hf := hf.1 c16
        exact hK138 σ v1 v3 _ _ _ hf hw (lv_sub hl [0, 1, 2] rfl)
      · replace hf := hf.2 c16
        refine lv_ldc2 (v := 31) hx hb C.2.2.2.1 (C.2.2.2.2.1 _ q1216) dX11_digest_117 ?_
        refine lv_lload_n hx hb dX11_digest_120 rfl (lv_at hl 1 rfl) ?_
        refine lv_lmul hx hb dX11_digest_121 ?_
        refine lv_aload_n hx hb dX11_digest_122 rfl (lv_at hl 0 rfl) ?_
        refine lv_iload hx hb dX11_digest_123 (lv_at hl 3 rfl) ?_
        refine lv_iload_n hx hb dX11_digest_125 rfl (lv_at hl 2 rfl) ?_
        refine x_runi hw (x_V (n := 2) (rest := [.long ((31 : Int64) * v1)]) C hw hm0 (by decide) (eX11_countOf hf hm0) q1063 q1065 q29 q53 q1066 rfl rfl (by decide +kernel) ⟨Nat.le_of_ble_eq_true rfl, Nat.le_of_ble_eq_true rfl⟩ rfl hl.1 rfl (Nat.le_of_ble_eq_true rfl) dX11_digest_126) (fun r18 σ17 H locs hf hw => ?_)
        try dsimp only at hf
        refine lv_i2l hx hb dX11_digest_129 rfl ?_
        refine lv_ladd hx hb dX11_digest_130 ?_
        refine lv_lstore_n (lv' := [(1, .long (((31 : Int64) * v1) + ((r18).toInt64))), (0, .ref (lay 11 0)), (3, .int v3), (4, .int v4)]) hx hb dX11_digest_131 rfl hl (by decide) rfl (fun ls hl => ?_)
        refine lv_iinc (v := (v4 + (1 : Int32))) (lv' := [(4, .int (v4 + (1 : Int32))), (1, .long (((31 : Int64) * v1) + ((r18).toInt64))), (0, .ref (lay 11 0)), (3, .int v3)]) hx hb dX11_digest_132 hl (k := 3) rfl (by rfl) (by decide) rfl (fun ls hl => ?_)
        refine lv_goto (tgt := 99) hx hb dX11_digest_135 (by decide) ?_
        exact ih σ17 (((31 : Int64) * v1) + ((r18).toInt64)) v3 (v4 + (1 : Int32)) _ _ _ hf hw (lv_sub hl [2, 1, 3, 0] rfl)
set_option maxHeartbeats 4000000 in
set_option maxRecDepth 100000 in
theorem eX11_digest_b138_32 {p : Program} {l : Launch} {e : Env} {s : State} {m : MethodId} {args : Array Value} {below : List Frame} {meth : Method} {c : Code} {E : EC} {lay : Nat → Nat → Nat} {L : List (Nat × Nat)} {A : Nat → Prop} (C : Cx p s m args c meth yX11_digest.cls cX11_digest 5 E A) (hret : meth.sig.returnType = some .long) {N : Nat} {Q : Int64 → St → Prop} {Kh : St → Int64 → Int32 → Prop} {Kx144 : St → Int64 → Prop} (hm0 : (11, 0) ∈ L) (hKh : ∀ (σ : St) (w1 : Int64) (w3 : Int32) (H : Heap) (locs : List Loc) (ls : Array Slot), Kh σ w1 w3 → Wo E lay L A s σ H locs → lv_has ls 5 [(0, .ref (lay 11 0)), (1, .long w1), (3, .int w3)] → W p l e rmX11_digest s m args below meth c H locs 0 0 (MQ below (va_Ql Q (Bd E lay L A) A) args s 0 0 A) (F0 m 32 ls [])) (hK144 : ∀ (σ : St) (w1 : Int64) (H : Heap) (locs : List Loc) (ls : Array Slot), Kx144 σ w1 → Wo E lay L A s σ H locs → lv_has ls 5 [(0, .ref (lay 11 0)), (1, .long w1)] → W p l e rmX11_digest s m args below meth c H locs 0 0 (MQ below (va_Ql Q (Bd E lay L A) A) args s 0 0 A) (F0 m 144 ls [])) (σ : St) (v1 : Int64) (v3 : Int32) (H : Heap) (locs : List Loc) (ls : Array Slot) (hf : fX11_digest_b138_32 N Q Kh Kx144 σ v1 v3) (hw : Wo E lay L A s σ H locs) (hl : lv_has ls 5 [(0, .ref (lay 11 0)), (1, .long v1), (3, .int v3)]) : W p l e rmX11_digest s m args below meth c H locs 0 0 (MQ below (va_Ql Q (Bd E lay L A) A) args s 0 0 A) (F0 m 138 ls []) := by
  have hx := C.1
  have hb := C.2.1
  unfold fX11_digest_b138_32 at hf
  refine lv_iinc (v := (v3 + (1 : Int32))) (lv' := [(3, .int (v3 + (1 : Int32))), (0, .ref (lay 11 0)), (1, .long v1)]) hx hb dX11_digest_138 hl (k := 2) rfl (by rfl) (by decide) rfl (fun ls hl => ?_)
  refine lv_goto (tgt := 32) hx hb dX11_digest_141 (by decide) ?_
  exact hKh σ v1 (v3 + (1 : Int32)) _ _ _ hf hw (lv_sub hl [1, 2, 0] rfl)
set_option maxHeartbeats 4000000 in
set_option maxRecDepth 100000 in
theorem eX11_digest_b96_32 {p : Program} {l : Launch} {e : Env} {s : State} {m : MethodId} {args : Array Value} {below : List Frame} {meth : Method} {c : Code} {E : EC} {lay : Nat → Nat → Nat} {L : List (Nat × Nat)} {A : Nat → Prop} (C : Cx p s m args c meth yX11_digest.cls cX11_digest 5 E A) (hret : meth.sig.returnType = some .long) {N : Nat} {Q : Int64 → St → Prop} {Kh : St → Int64 → Int32 → Prop} {Kx144 : St → Int64 → Prop} (hm0 : (11, 0) ∈ L) (hKh : ∀ (σ : St) (w1 : Int64) (w3 : Int32) (H : Heap) (locs : List Loc) (ls : Array Slot), Kh σ w1 w3 → Wo E lay L A s σ H locs → lv_has ls 5 [(0, .ref (lay 11 0)), (1, .long w1), (3, .int w3)] → W p l e rmX11_digest s m args below meth c H locs 0 0 (MQ below (va_Ql Q (Bd E lay L A) A) args s 0 0 A) (F0 m 32 ls [])) (hK144 : ∀ (σ : St) (w1 : Int64) (H : Heap) (locs : List Loc) (ls : Array Slot), Kx144 σ w1 → Wo E lay L A s σ H locs → lv_has ls 5 [(0, .ref (lay 11 0)), (1, .long w1)] → W p l e rmX11_digest s m args below meth c H locs 0 0 (MQ below (va_Ql Q (Bd E lay L A) A) args s 0 0 A) (F0 m 144 ls [])) (σ : St) (v1 : Int64) (v3 : Int32) (H : Heap) (locs : List Loc) (ls : Array Slot) (hf : fX11_digest_b96_32 N Q Kh Kx144 σ v1 v3) (hw : Wo E lay L A s σ H locs) (hl : lv_has ls 5 [(0, .ref (lay 11 0)), (1, .long v1), (3, .int v3)]) : W p l e rmX11_digest s m args below meth c H locs 0 0 (MQ below (va_Ql Q (Bd E lay L A) A) args s 0 0 A) (F0 m 96 ls []) := by
  have hx := C.1
  have hb := C.2.1
  unfold fX11_digest_b96_32 at hf
  refine lv_iconst (v := 0) hx hb dX11_digest_96 (by decide) ?_
  refine lv_istore (lv' := [(4, .int (0 : Int32)), (0, .ref (lay 11 0)), (1, .long v1), (3, .int v3)]) hx hb dX11_digest_97 hl (by decide) rfl (fun ls hl => ?_)
  refine eX11_digest_l99 C hret hm0 ?_ N σ v1 v3 (0 : Int32) _ _ _ hf hw (lv_sub hl [1, 2, 3, 0] rfl)
  · intro σ19 u138_1 u138_3 H locs ls hf hw hl
    exact eX11_digest_b138_32 C hret hm0 hKh hK144 σ19 u138_1 u138_3 _ _ _ hf hw (lv_sub hl [0, 1, 2] rfl)
set_option maxHeartbeats 4000000 in
set_option maxRecDepth 100000 in
theorem eX11_digest_b57_32 {p : Program} {l : Launch} {e : Env} {s : State} {m : MethodId} {args : Array Value} {below : List Frame} {meth : Method} {c : Code} {E : EC} {lay : Nat → Nat → Nat} {L : List (Nat × Nat)} {A : Nat → Prop} (C : Cx p s m args c meth yX11_digest.cls cX11_digest 5 E A) (hret : meth.sig.returnType = some .long) {N : Nat} {Q : Int64 → St → Prop} {Kh : St → Int64 → Int32 → Prop} {Kx144 : St → Int64 → Prop} (hm0 : (11, 0) ∈ L) (hKh : ∀ (σ : St) (w1 : Int64) (w3 : Int32) (H : Heap) (locs : List Loc) (ls : Array Slot), Kh σ w1 w3 → Wo E lay L A s σ H locs → lv_has ls 5 [(0, .ref (lay 11 0)), (1, .long w1), (3, .int w3)] → W p l e rmX11_digest s m args below meth c H locs 0 0 (MQ below (va_Ql Q (Bd E lay L A) A) args s 0 0 A) (F0 m 32 ls [])) (hK144 : ∀ (σ : St) (w1 : Int64) (H : Heap) (locs : List Loc) (ls : Array Slot), Kx144 σ w1 → Wo E lay L A s σ H locs → lv_has ls 5 [(0, .ref (lay 11 0)), (1, .long w1)] → W p l e rmX11_digest s m args below meth c H locs 0 0 (MQ below (va_Ql Q (Bd E lay L A) A) args s 0 0 A) (F0 m 144 ls [])) (σ : St) (v1 : Int64) (v3 : Int32) (H : Heap) (locs : List Loc) (ls : Array Slot) (hf : fX11_digest_b57_32 N Q Kh Kx144 σ v1 v3) (hw : Wo E lay L A s σ H locs) (hl : lv_has ls 5 [(0, .ref (lay 11 0)), (1, .long v1), (3, .int v3)]) : W p l e rmX11_digest s m args below meth c H locs 0 0 (MQ below (va_Ql Q (Bd E lay L A) A) args s 0 0 A) (F0 m 57 ls []) := by
  have hx := C.1
  have hb := C.2.1
  unfold fX11_digest_b57_32 at hf
  refine lv_iconst (v := 0) hx hb dX11_digest_57 (by decide) ?_
  refine lv_istore (lv' := [(4, .int (0 : Int32)), (0, .ref (lay 11 0)), (1, .long v1), (3, .int v3)]) hx hb dX11_digest_58 hl (by decide) rfl (fun ls hl => ?_)
  refine eX11_digest_l60 C hret hm0 ?_ N σ v1 v3 (0 : Int32) _ _ _ hf hw (lv_sub hl [1, 2, 3, 0] rfl)
  · intro σ13 u96_1 u96_3 H locs ls hf hw hl
    exact eX11_digest_b96_32 C hret hm0 hKh hK144 σ13 u96_1 u96_3 _ _ _ hf hw (lv_sub hl [0, 1, 2] rfl)
set_option maxHeartbeats 4000000 in
set_option maxRecDepth 100000 in
theorem eX11_digest_l32 {p : Program} {l : Launch} {e : Env} {s : State} {m : MethodId} {args : Array Value} {below : List Frame} {meth : Method} {c : Code} {E : EC} {lay : Nat → Nat → Nat} {L : List (Nat × Nat)} {A : Nat → Prop} (C : Cx p s m args c meth yX11_digest.cls cX11_digest 5 E A) (hret : meth.sig.returnType = some .long) {N : Nat} {Q : Int64 → St → Prop} {Kx144 : St → Int64 → Prop} (hm0 : (11, 0) ∈ L) (hK144 : ∀ (σ : St) (w1 : Int64) (H : Heap) (locs : List Loc) (ls : Array Slot), Kx144 σ w1 → Wo E lay L A s σ H locs → lv_has ls 5 [(0, .ref (lay 11 0)), (1, .long w1)] → W p l e rmX11_digest s m args below meth c H locs 0 0 (MQ below (va_Ql Q (Bd E lay L A) A) args s 0 0 A) (F0 m 144 ls [])) : ∀ (n : Nat) (σ : St) (v1 : Int64) (v3 : Int32) (H : Heap) (locs : List Loc) (ls : Array Slot), fX11_digest_l32 N Q Kx144 n σ v1 v3 → Wo E lay L A s σ H locs → lv_has ls 5 [(0, .ref (lay 11 0)), (1, .long v1), (3, .int v3)] → W p l e rmX11_digest s m args below meth c H locs 0 0 (MQ below (va_Ql Q (Bd E lay L A) A) args s 0 0 A) (F0 m 32 ls []) := by
  have hx := C.1
  have hb := C.2.1
  intro n
  induction n with
  | zero => intro σ v1 v3 H locs ls hf; exact hf.elim
  | succ n ih =>
    intro σ v1 v3 H locs ls hf hw hl
    rw [fX11_digest_l32] at hf
    refine lv_iload_n hx hb dX11_digest_32 rfl (lv_at hl 2 rfl) ?_
    refine lv_aload_n hx hb dX11_digest_33 rfl (lv_at hl 0 rfl) ?_
    refine x_get (v := .int (sF σ 11 0 6)) (j := 6) C hw hm0 rfl (by decide) (by decide) rfl q886 dX11_digest_34 ?_
    refine lv_icmp_ge (tgt := 144) hx hb dX11_digest_37 (by decide) (fun c5 => ?_) (fun c5 => ?_)
    · replace hf := hf.1 c5
      exact hK144 σ v1 _ _ _ hf hw (lv_sub hl [0, 1] rfl)
    · replace hf := hf.2 c5
      refine lv_aload_n hx hb dX11_digest_40 rfl (lv_at hl 0 rfl) ?_
      have hm_6 : (70, 0) ∈ L := hw.2.2.2.1 11 0 hm0 10 (by decide) (by decide) rfl
      refine x_get (v := .ref (lay 70 0)) (j := 10) C hw hm0 rfl (by decide) (by decide) rfl q890 dX11_digest_41 ?_
      refine lv_iload_n hx hb dX11_digest_44 rfl (lv_at hl 2 rfl) ?_
      refine x_zald C hw hm_6 (by decide) rfl hf.1 dX11_digest_45 ?_
      replace hf := hf.2
      refine lv_if_eq (tgt := 57) hx hb dX11_digest_46 (by decide) (fun c7 => ?_) (fun c7 => ?_)
      · replace hf := hf.1 c7
        exact eX11_digest_b57_32 C hret hm0 ih hK144 σ v1 v3 _ _ _ hf hw (lv_sub hl [0, 1, 2] rfl)
      · replace hf := hf.2 c7
        refine lv_ldc2 (v := 31) hx hb C.2.2.2.1 (C.2.2.2.2.1 _ q1216) dX11_digest_49 ?_
        refine lv_lload_n hx hb dX11_digest_52 rfl (lv_at hl 1 rfl) ?_
        refine lv_lmul hx hb dX11_digest_53 ?_
        refine lv_lconst (v := 1) hx hb dX11_digest_54 (by decide) ?_
        refine lv_lsub hx hb dX11_digest_55 ?_
        refine lv_lstore_n (lv' := [(1, .long (((31 : Int64) * v1) - (1 : Int64))), (0, .ref (lay 11 0)), (3, .int v3)]) hx hb dX11_digest_56 rfl hl (by decide) rfl (fun ls hl => ?_)
        exact eX11_digest_b57_32 C hret hm0 ih hK144 σ (((31 : Int64) * v1) - (1 : Int64)) v3 _ _ _ hf hw (lv_sub hl [1, 0, 2] rfl)
set_option maxHeartbeats 4000000 in
set_option maxRecDepth 100000 in
theorem eX11_digest_l181 {p : Program} {l : Launch} {e : Env} {s : State} {m : MethodId} {args : Array Value} {below : List Frame} {meth : Method} {c : Code} {E : EC} {lay : Nat → Nat → Nat} {L : List (Nat × Nat)} {A : Nat → Prop} (C : Cx p s m args c meth yX11_digest.cls cX11_digest 5 E A) (hret : meth.sig.returnType = some .long) {N : Nat} {Q : Int64 → St → Prop} {Kx219 : St → Int64 → Int32 → Prop} (hm0 : (11, 0) ∈ L) (hK219 : ∀ (σ : St) (w1 : Int64) (w3 : Int32) (H : Heap) (locs : List Loc) (ls : Array Slot), Kx219 σ w1 w3 → Wo E lay L A s σ H locs → lv_has ls 5 [(0, .ref (lay 11 0)), (1, .long w1), (3, .int w3)] → W p l e rmX11_digest s m args below meth c H locs 0 0 (MQ below (va_Ql Q (Bd E lay L A) A) args s 0 0 A) (F0 m 219 ls [])) : ∀ (n : Nat) (σ : St) (v1 : Int64) (v3 : Int32) (v4 : Int32) (H : Heap) (locs : List Loc) (ls : Array Slot), fX11_digest_l181 N Q Kx219 n σ v1 v3 v4 → Wo E lay L A s σ H locs → lv_has ls 5 [(0, .ref (lay 11 0)), (1, .long v1), (3, .int v3), (4, .int v4)] → W p l e rmX11_digest s m args below meth c H locs 0 0 (MQ below (va_Ql Q (Bd E lay L A) A) args s 0 0 A) (F0 m 181 ls []) := by
  have hx := C.1
  have hb := C.2.1
  intro n
  induction n with
  | zero => intro σ v1 v3 v4 H locs ls hf; exact hf.elim
  | succ n ih =>
    intro σ v1 v3 v4 H locs ls hf hw hl
    rw [fX11_digest_l181] at hf
    refine lv_iload hx hb dX11_digest_181 (lv_at hl 3 rfl) ?_
    refine lv_aload_n hx hb dX11_digest_183 rfl (lv_at hl 0 rfl) ?_
    have hm_25 : (63, 0) ∈ L := hw.2.2.2.1 11 0 hm0 3 (by decide) (by decide) rfl
    refine x_get (v := .ref (lay 63 0)) (j := 3) C hw hm0 rfl (by decide) (by decide) rfl q883 dX11_digest_184 ?_
    refine lv_iload_n hx hb dX11_digest_187 rfl (lv_at hl 2 rfl) ?_
    refine x_iald C hw hm_25 (by decide) rfl hf.1 dX11_digest_188 ?_
    replace hf := hf.2
    refine lv_icmp_ge (tgt := 219) hx hb dX11_digest_189 (by decide) (fun c26 => ?_) (fun c26 => ?_)
    · replace hf := hf.1 c26
      exact hK219 σ v1 v3 _ _ _ hf hw (lv_sub hl [0, 1, 2] rfl)
    · replace hf := hf.2 c26
      refine lv_ldc2 (v := 31) hx hb C.2.2.2.1 (C.2.2.2.2.1 _ q1216) dX11_digest_192 ?_
      refine lv_lload_n hx hb dX11_digest_195 rfl (lv_at hl 1 rfl) ?_
      refine lv_lmul hx hb dX11_digest_196 ?_
      refine lv_aload_n hx hb dX11_digest_197 rfl (lv_at hl 0 rfl) ?_
      have hm_27 : (64, 0) ∈ L := hw.2.2.2.1 11 0 hm0 4 (by decide) (by decide) rfl
      refine x_get (v := .ref (lay 64 0)) (j := 4) C hw hm0 rfl (by decide) (by decide) rfl q884 dX11_digest_198 ?_
      refine lv_sipush (v := 200) hx hb dX11_digest_201 (by decide) ?_
      refine lv_iload_n hx hb dX11_digest_204 rfl (lv_at hl 2 rfl) ?_
      refine lv_imul hx hb dX11_digest_205 ?_
      refine lv_iload hx hb dX11_digest_206 (lv_at hl 3 rfl) ?_
      refine lv_iadd hx hb dX11_digest_208 ?_
      refine x_iald C hw hm_27 (by decide) rfl hf.1 dX11_digest_209 ?_
      replace hf := hf.2
      refine lv_i2l hx hb dX11_digest_210 rfl ?_
      refine lv_ladd hx hb dX11_digest_211 ?_
      refine lv_topl (fun x28 ex28 => ?_)
      replace hf := hf x28 ex28
      refine lv_lstore_n (lv' := [(1, .long x28), (0, .ref (lay 11 0)), (3, .int v3), (4, .int v4)]) hx hb dX11_digest_212 rfl hl (by decide) rfl (fun ls hl => ?_)
      refine lv_iinc (v := (v4 + (1 : Int32))) (lv' := [(4, .int (v4 + (1 : Int32))), (1, .long x28), (0, .ref (lay 11 0)), (3, .int v3)]) hx hb dX11_digest_213 hl (k := 3) rfl (by rfl) (by decide) rfl (fun ls hl => ?_)
      refine lv_goto (tgt := 181) hx hb dX11_digest_216 (by decide) ?_
      exact ih σ x28 v3 (v4 + (1 : Int32)) _ _ _ hf hw (lv_sub hl [2, 1, 3, 0] rfl)
set_option maxHeartbeats 4000000 in
set_option maxRecDepth 100000 in
theorem eX11_digest_b175_146 {p : Program} {l : Launch} {e : Env} {s : State} {m : MethodId} {args : Array Value} {below : List Frame} {meth : Method} {c : Code} {E : EC} {lay : Nat → Nat → Nat} {L : List (Nat × Nat)} {A : Nat → Prop} (C : Cx p s m args c meth yX11_digest.cls cX11_digest 5 E A) (hret : meth.sig.returnType = some .long) {N : Nat} {Q : Int64 → St → Prop} {Kh : St → Int64 → Int32 → Prop} {Kx225 : St → Int64 → Prop} (hm0 : (11, 0) ∈ L) (hKh : ∀ (σ : St) (w1 : Int64) (w3 : Int32) (H : Heap) (locs : List Loc) (ls : Array Slot), Kh σ w1 w3 → Wo E lay L A s σ H locs → lv_has ls 5 [(0, .ref (lay 11 0)), (1, .long w1), (3, .int w3)] → W p l e rmX11_digest s m args below meth c H locs 0 0 (MQ below (va_Ql Q (Bd E lay L A) A) args s 0 0 A) (F0 m 146 ls [])) (hK225 : ∀ (σ : St) (w1 : Int64) (H : Heap) (locs : List Loc) (ls : Array Slot), Kx225 σ w1 → Wo E lay L A s σ H locs → lv_has ls 5 [(1, .long w1)] → W p l e rmX11_digest s m args below meth c H locs 0 0 (MQ below (va_Ql Q (Bd E lay L A) A) args s 0 0 A) (F0 m 225 ls [])) (σ : St) (v3 : Int32) (t0 : Int32) (t1 : Int64) (H : Heap) (locs : List Loc) (ls : Array Slot) (hf : fX11_digest_b175_146 N Q Kh Kx225 σ v3 t0 t1) (hw : Wo E lay L A s σ H locs) (hl : lv_has ls 5 [(0, .ref (lay 11 0)), (3, .int v3)]) : W p l e rmX11_digest s m args below meth c H locs 0 0 (MQ below (va_Ql Q (Bd E lay L A) A) args s 0 0 A) (F0 m 175 ls [.int t0, .long t1]) := by
  have hx := C.1
  have hb := C.2.1
  unfold fX11_digest_b175_146 at hf
  refine lv_i2l hx hb dX11_digest_175 rfl ?_
  refine lv_ladd hx hb dX11_digest_176 ?_
  refine lv_lstore_n (lv' := [(1, .long (t1 + ((t0).toInt64))), (0, .ref (lay 11 0)), (3, .int v3)]) hx hb dX11_digest_177 rfl hl (by decide) rfl (fun ls hl => ?_)
  refine lv_iconst (v := 0) hx hb dX11_digest_178 (by decide) ?_
  refine lv_istore (lv' := [(4, .int (0 : Int32)), (1, .long (t1 + ((t0).toInt64))), (0, .ref (lay 11 0)), (3, .int v3)]) hx hb dX11_digest_179 hl (by decide) rfl (fun ls hl => ?_)
  refine eX11_digest_l181 C hret hm0 ?_ N σ (t1 + ((t0).toInt64)) v3 (0 : Int32) _ _ _ hf hw (lv_sub hl [2, 1, 3, 0] rfl)
  · intro σ29 u219_1 u219_3 H locs ls hf hw hl
    refine lv_iinc (v := (u219_3 + (1 : Int32))) (lv' := [(3, .int (u219_3 + (1 : Int32))), (0, .ref (lay 11 0)), (1, .long u219_1)]) hx hb dX11_digest_219 hl (k := 2) rfl (by rfl) (by decide) rfl (fun ls hl => ?_)
    refine lv_goto (tgt := 146) hx hb dX11_digest_222 (by decide) ?_
    exact hKh σ29 u219_1 (u219_3 + (1 : Int32)) _ _ _ hf hw (lv_sub hl [1, 2, 0] rfl)
set_option maxHeartbeats 4000000 in
set_option maxRecDepth 100000 in
theorem eX11_digest_l146 {p : Program} {l : Launch} {e : Env} {s : State} {m : MethodId} {args : Array Value} {below : List Frame} {meth : Method} {c : Code} {E : EC} {lay : Nat → Nat → Nat} {L : List (Nat × Nat)} {A : Nat → Prop} (C : Cx p s m args c meth yX11_digest.cls cX11_digest 5 E A) (hret : meth.sig.returnType = some .long) {N : Nat} {Q : Int64 → St → Prop} {Kx225 : St → Int64 → Prop} (hm0 : (11, 0) ∈ L) (hK225 : ∀ (σ : St) (w1 : Int64) (H : Heap) (locs : List Loc) (ls : Array Slot), Kx225 σ w1 → Wo E lay L A s σ H locs → lv_has ls 5 [(1, .long w1)] → W p l e rmX11_digest s m args below meth c H locs 0 0 (MQ below (va_Ql Q (Bd E lay L A) A) args s 0 0 A) (F0 m 225 ls [])) : ∀ (n : Nat) (σ : St) (v1 : Int64) (v3 : Int32) (H : Heap) (locs : List Loc) (ls : Array Slot), fX11_digest_l146 N Q Kx225 n σ v1 v3 → Wo E lay L A s σ H locs → lv_has ls 5 [(0, .ref (lay 11 0)), (1, .long v1), (3, .int v3)] → W p l e rmX11_digest s m args below meth c H locs 0 0 (MQ below (va_Ql Q (Bd E lay L A) A) args s 0 0 A) (F0 m 146 ls []) := by
  have hx := C.1
  have hb := C.2.1
  intro n
  induction n with
  | zero => intro σ v1 v3 H locs ls hf; exact hf.elim
  | succ n ih =>
    intro σ v1 v3 H locs ls hf hw hl
    rw [fX11_digest_l146] at hf
    refine lv_iload_n hx hb dX11_digest_146 rfl (lv_at hl 2 rfl) ?_
    refine lv_iconst (v := 4) hx hb dX11_digest_147 (by decide) ?_
    refine lv_icmp_ge (tgt := 225) hx hb dX11_digest_148 (by decide) (fun c21 => ?_) (fun c21 => ?_)
    · replace hf := hf.1 c21
      exact hK225 σ v1 _ _ _ hf hw (lv_sub hl [1] rfl)
    · replace hf := hf.2 c21
      refine lv_ldc2 (v := 31) hx hb C.2.2.2.1 (C.2.2.2.2.1 _ q1216) dX11_digest_151 ?_
      refine lv_lload_n hx hb dX11_digest_154 rfl (lv_at hl 1 rfl) ?_
      refine lv_lmul hx hb dX11_digest_155 ?_
      refine lv_aload_n hx hb dX11_digest_156 rfl (lv_at hl 0 rfl) ?_
      have hm_22 : (63, 0) ∈ L := hw.2.2.2.1 11 0 hm0 3 (by decide) (by decide) rfl
      refine x_get (v := .ref (lay 63 0)) (j := 3) C hw hm0 rfl (by decide) (by decide) rfl q883 dX11_digest_157 ?_
      refine lv_iload_n hx hb dX11_digest_160 rfl (lv_at hl 2 rfl) ?_
      refine x_iald C hw hm_22 (by decide) rfl hf.1 dX11_digest_161 ?_
      replace hf := hf.2
      refine lv_if_ge (tgt := 169) hx hb dX11_digest_162 (by decide) (fun c23 => ?_) (fun c23 => ?_)
      · replace hf := hf.1 c23
        refine lv_aload_n hx hb dX11_digest_169 rfl (lv_at hl 0 rfl) ?_
        have hm_24 : (63, 0) ∈ L := hw.2.2.2.1 11 0 hm0 3 (by decide) (by decide) rfl
        refine x_get (v := .ref (lay 63 0)) (j := 3) C hw hm0 rfl (by decide) (by decide) rfl q883 dX11_digest_170 ?_
        refine lv_iload_n hx hb dX11_digest_173 rfl (lv_at hl 2 rfl) ?_
        refine x_iald C hw hm_24 (by decide) rfl hf.1 dX11_digest_174 ?_
        replace hf := hf.2
        exact eX11_digest_b175_146 C hret hm0 ih hK225 σ v3 (sA σ 63 0 (v3).toNatClampNeg) ((31 : Int64) * v1) _ _ _ hf hw (lv_sub hl [0, 2] rfl)
      · replace hf := hf.2 c23
        refine lv_iconst (v := (-1)) hx hb dX11_digest_165 (by decide) ?_
        refine lv_goto (tgt := 175) hx hb dX11_digest_166 (by decide) ?_
        exact eX11_digest_b175_146 C hret hm0 ih hK225 σ v3 (-1 : Int32) ((31 : Int64) * v1) _ _ _ hf hw (lv_sub hl [0, 2] rfl)
def fX11_digest (N : Nat) (σ : St) (Q : Int64 → St → Prop) : Prop := fX11_digest_l6 N Q (fun (σ4 : St) (u30_1 : Int64) => fX11_digest_l32 N Q (fun (σ20 : St) (u144_1 : Int64) => fX11_digest_l146 N Q (fun (σ30 : St) (u225_1 : Int64) => Q u225_1 σ30) N σ20 u144_1 (0 : Int32)) N σ4 u30_1 (0 : Int32)) N σ (17 : Int64) (0 : Int32)
set_option maxHeartbeats 4000000 in
set_option maxRecDepth 100000 in
theorem eX11_digest {l : Launch} {E : EC} {lay : Nat → Nat → Nat} {L : List (Nat × Nat)} {A : Nat → Prop} {N : Nat} {σ : St} {Q : Int64 → St → Prop} (hf : fX11_digest N σ Q) (hm0 : (11, 0) ∈ L) : Met l yX11_digest (.code yX11_digest cX11_digest 5 (some .long) :: big) rmX11_digest (va_Pc [.ref (lay 11 0)] (Bp E lay L A σ)) (va_Ql Q (Bd E lay L A) A) 0 0 A := by
  refine x_met (by decide +kernel) (Nat.le_of_ble_eq_true rfl) ?_
  intro p e s m args below meth c ls C hret hw hl
  have hx := C.1
  have hb := C.2.1
  have hl : lv_has ls 5 [(0, .ref (lay 11 0))] := hl
  unfold fX11_digest at hf
  refine lv_ldc2 (v := 17) hx hb C.2.2.2.1 (C.2.2.2.2.1 _ q1215) dX11_digest_0 ?_
  refine lv_lstore_n (lv' := [(1, .long (17 : Int64)), (0, .ref (lay 11 0))]) hx hb dX11_digest_3 rfl hl (by decide) rfl (fun ls hl => ?_)
  refine lv_iconst (v := 0) hx hb dX11_digest_4 (by decide) ?_
  refine lv_istore_n (lv' := [(3, .int (0 : Int32)), (1, .long (17 : Int64)), (0, .ref (lay 11 0))]) hx hb dX11_digest_5 rfl hl (by decide) rfl (fun ls hl => ?_)
  refine eX11_digest_l6 C hret hm0 ?_ N σ (17 : Int64) (0 : Int32) _ _ _ hf hw (lv_sub hl [2, 1, 0] rfl)
  · intro σ4 u30_1 H locs ls hf hw hl
    refine lv_iconst (v := 0) hx hb dX11_digest_30 (by decide) ?_
    refine lv_istore_n (lv' := [(3, .int (0 : Int32)), (0, .ref (lay 11 0)), (1, .long u30_1)]) hx hb dX11_digest_31 rfl hl (by decide) rfl (fun ls hl => ?_)
    refine eX11_digest_l32 C hret hm0 ?_ N σ4 u30_1 (0 : Int32) _ _ _ hf hw (lv_sub hl [1, 2, 0] rfl)
    · intro σ20 u144_1 H locs ls hf hw hl
      refine lv_iconst (v := 0) hx hb dX11_digest_144 (by decide) ?_
      refine lv_istore_n (lv' := [(3, .int (0 : Int32)), (0, .ref (lay 11 0)), (1, .long u144_1)]) hx hb dX11_digest_145 rfl hl (by decide) rfl (fun ls hl => ?_)
      refine eX11_digest_l146 C hret hm0 ?_ N σ20 u144_1 (0 : Int32) _ _ _ hf hw (lv_sub hl [1, 2, 0] rfl)
      · intro σ30 u225_1 H locs ls hf hw hl
        refine lv_lload_n hx hb dX11_digest_225 rfl (lv_at hl 0 rfl) ?_
        exact x_lret C hret hw hf dX11_digest_226
