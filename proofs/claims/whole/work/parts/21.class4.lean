-- X10_mark
abbrev rmX10_mark : Room := { frames := 1, cells := 0, slots := 0, locals := 21 }
def fX10_mark_b91 (N : Nat) (a1 : Int32) (a2 : Int32) (Q : Int32 → St → Prop) (σ : St) : Prop := fX10_found N σ (3 : Int32) (fun (r12 : Int32) (σ11 : St) => Q r12 σ11)
def fX10_mark_b70 (N : Nat) (a1 : Int32) (a2 : Int32) (Q : Int32 → St → Prop) (σ : St) (v3 : Option Nat) : Prop := ((¬ a2 = (3 : Int32) → fX10_mark_b91 N a1 a2 Q σ) ∧ (a2 = (3 : Int32) → (∃ i13, v3 = some i13 ∧ ((¬ (sF σ 8 i13 0) = (3 : Int32) → fX10_mark_b91 N a1 a2 Q σ) ∧ ((sF σ 8 i13 0) = (3 : Int32) → Q (sF σ 4 i13 4) σ)))))
def fX10_mark_b52 (N : Nat) (a1 : Int32) (a2 : Int32) (Q : Int32 → St → Prop) (σ : St) (v3 : Option Nat) : Prop := ((¬ a2 = (2 : Int32) → fX10_mark_b70 N a1 a2 Q σ v3) ∧ (a2 = (2 : Int32) → (∃ i17, v3 = some i17 ∧ ((¬ (sF σ 8 i17 0) = (2 : Int32) → fX10_mark_b70 N a1 a2 Q σ (some i17)) ∧ ((sF σ 8 i17 0) = (2 : Int32) → Q (sF σ 8 i17 2) σ)))))
set_option maxHeartbeats 4000000 in
set_option maxRecDepth 100000 in
theorem eX10_mark_b91 {p : Program} {l : Launch} {e : Env} {s : State} {m : MethodId} {args : Array Value} {below : List Frame} {meth : Method} {c : Code} {E : EC} {lay : Nat → Nat → Nat} {L : List (Nat × Nat)} {A : Nat → Prop} (C : Cx p s m args c meth yX10_mark.cls cX10_mark 4 E A) (hret : meth.sig.returnType = some .int) {N : Nat} {a1 : Int32} {a2 : Int32} {Q : Int32 → St → Prop} (hm0 : (10, 0) ∈ L) (σ : St) (H : Heap) (locs : List Loc) (ls : Array Slot) (hf : fX10_mark_b91 N a1 a2 Q σ) (hw : Wo E lay L A s σ H locs) (hl : lv_has ls 4 [(0, .ref (lay 10 0))]) : W p l e rmX10_mark s m args below meth c H locs 0 0 (MQ below (va_Qi Q (Bd E lay L A) A) args s 0 0 A) (F0 m 91 ls []) := by
  have hx := C.1
  have hb := C.2.1
  unfold fX10_mark_b91 at hf
  refine lv_aload_n hx hb dX10_mark_91 rfl (lv_at hl 0 rfl) ?_
  refine lv_iconst (v := 3) hx hb dX10_mark_92 (by decide) ?_
  refine x_runi hw (x_V (n := 1) (rest := []) C hw hm0 (by decide) (eX10_found hf hm0) q340 q342 q1 q44 q343 rfl rfl (by decide +kernel) ⟨Nat.le_of_ble_eq_true rfl, Nat.le_of_ble_eq_true rfl⟩ rfl hl.1 rfl (Nat.le_of_ble_eq_true rfl) dX10_mark_93) (fun r12 σ11 H locs hf hw => ?_)
  try dsimp only at hf
  exact x_iret C hret hw hf dX10_mark_96
set_option maxHeartbeats 4000000 in
set_option maxRecDepth 100000 in
theorem eX10_mark_b70 {p : Program} {l : Launch} {e : Env} {s : State} {m : MethodId} {args : Array Value} {below : List Frame} {meth : Method} {c : Code} {E : EC} {lay : Nat → Nat → Nat} {L : List (Nat × Nat)} {A : Nat → Prop} (C : Cx p s m args c meth yX10_mark.cls cX10_mark 4 E A) (hret : meth.sig.returnType = some .int) {N : Nat} {a1 : Int32} {a2 : Int32} {Q : Int32 → St → Prop} (hm0 : (10, 0) ∈ L) (σ : St) (v3 : Option Nat) (H : Heap) (locs : List Loc) (ls : Array Slot) (hf : fX10_mark_b70 N a1 a2 Q σ v3) (hw : Wo E lay L A s σ H locs) (hl : lv_has ls 4 [(0, .ref (lay 10 0)), (2, .int a2), (3, rf lay 8 v3)]) (hv3 : ∀ i, v3 = some i → (8, i) ∈ L) : W p l e rmX10_mark s m args below meth c H locs 0 0 (MQ below (va_Qi Q (Bd E lay L A) A) args s 0 0 A) (F0 m 70 ls []) := by
  have hx := C.1
  have hb := C.2.1
  unfold fX10_mark_b70 at hf
  refine lv_iload_n hx hb dX10_mark_70 rfl (lv_at hl 1 rfl) ?_
  refine lv_iconst (v := 3) hx hb dX10_mark_71 (by decide) ?_
  refine lv_icmp_ne (tgt := 91) hx hb dX10_mark_72 (by decide) (fun c10 => ?_) (fun c10 => ?_)
  · replace hf := hf.1 c10
    exact eX10_mark_b91 C hret hm0 σ _ _ _ hf hw (lv_sub hl [0] rfl)
  · replace hf := hf.2 c10
    refine x_aload_n hx hb dX10_mark_75 rfl (lv_at hl 2 rfl) ?_
    obtain ⟨i13, eni13, hf⟩ := hf
    have hn_14 := hv3 i13 eni13
    try rw [eni13] at hl
    rw [show rf lay 8 v3 = .ref (lay 8 i13) from by rw [eni13]; rfl]
    refine x_getN (v := .int (sF σ 8 i13 0)) (j := 0) (host := "WhoseHand") C hw hn_14 rfl (by decide) (by decide) rfl q405 dX10_mark_76 ?_
    refine lv_iconst (v := 3) hx hb dX10_mark_79 (by decide) ?_
    refine lv_icmp_ne (tgt := 91) hx hb dX10_mark_80 (by decide) (fun c15 => ?_) (fun c15 => ?_)
    · replace hf := hf.1 c15
      exact eX10_mark_b91 C hret hm0 σ _ _ _ hf hw (lv_sub hl [0] rfl)
    · replace hf := hf.2 c15
      refine lv_aload_n hx hb dX10_mark_83 rfl (lv_at hl 2 rfl) ?_
      have hm_16 : (4, i13) ∈ L := hw.2.2.2.1 8 i13 hn_14 3 (by decide) (by decide) rfl
      refine x_getN (v := .ref (lay 4 i13)) (j := 3) (host := "WhoseHand") C hw hn_14 rfl (by decide) (by decide) rfl q412 dX10_mark_84 ?_
      refine x_getN (v := .int (sF σ 4 i13 4)) (j := 4) (host := "WhoseHand") C hw hm_16 rfl (by decide) (by decide) rfl q250 dX10_mark_87 ?_
      exact x_iret C hret hw hf dX10_mark_90
set_option maxHeartbeats 4000000 in
set_option maxRecDepth 100000 in
theorem eX10_mark_b52 {p : Program} {l : Launch} {e : Env} {s : State} {m : MethodId} {args : Array Value} {below : List Frame} {meth : Method} {c : Code} {E : EC} {lay : Nat → Nat → Nat} {L : List (Nat × Nat)} {A : Nat → Prop} (C : Cx p s m args c meth yX10_mark.cls cX10_mark 4 E A) (hret : meth.sig.returnType = some .int) {N : Nat} {a1 : Int32} {a2 : Int32} {Q : Int32 → St → Prop} (hm0 : (10, 0) ∈ L) (σ : St) (v3 : Option Nat) (H : Heap) (locs : List Loc) (ls : Array Slot) (hf : fX10_mark_b52 N a1 a2 Q σ v3) (hw : Wo E lay L A s σ H locs) (hl : lv_has ls 4 [(0, .ref (lay 10 0)), (2, .int a2), (3, rf lay 8 v3)]) (hv3 : ∀ i, v3 = some i → (8, i) ∈ L) : W p l e rmX10_mark s m args below meth c H locs 0 0 (MQ below (va_Qi Q (Bd E lay L A) A) args s 0 0 A) (F0 m 52 ls []) := by
  have hx := C.1
  have hb := C.2.1
  unfold fX10_mark_b52 at hf
  refine lv_iload_n hx hb dX10_mark_52 rfl (lv_at hl 1 rfl) ?_
  refine lv_iconst (v := 2) hx hb dX10_mark_53 (by decide) ?_
  refine lv_icmp_ne (tgt := 70) hx hb dX10_mark_54 (by decide) (fun c9 => ?_) (fun c9 => ?_)
  · replace hf := hf.1 c9
    exact eX10_mark_b70 C hret hm0 σ v3 _ _ _ hf hw (lv_sub hl [0, 1, 2] rfl) hv3
  · replace hf := hf.2 c9
    refine x_aload_n hx hb dX10_mark_57 rfl (lv_at hl 2 rfl) ?_
    obtain ⟨i17, eni17, hf⟩ := hf
    have hn_18 := hv3 i17 eni17
    try rw [eni17] at hl
    rw [show rf lay 8 v3 = .ref (lay 8 i17) from by rw [eni17]; rfl]
    refine x_getN (v := .int (sF σ 8 i17 0)) (j := 0) (host := "WhoseHand") C hw hn_18 rfl (by decide) (by decide) rfl q405 dX10_mark_58 ?_
    refine lv_iconst (v := 2) hx hb dX10_mark_61 (by decide) ?_
    refine lv_icmp_ne (tgt := 70) hx hb dX10_mark_62 (by decide) (fun c19 => ?_) (fun c19 => ?_)
    · replace hf := hf.1 c19
      exact eX10_mark_b70 C hret hm0 σ (some i17) _ _ _ hf hw (lv_sub hl [0, 1, 2] rfl) (fun i h => by cases h; exact hn_18)
    · replace hf := hf.2 c19
      refine lv_aload_n hx hb dX10_mark_65 rfl (lv_at hl 2 rfl) ?_
      refine x_getN (v := .int (sF σ 8 i17 2)) (j := 2) (host := "WhoseHand") C hw hn_18 rfl (by decide) (by decide) rfl q409 dX10_mark_66 ?_
      exact x_iret C hret hw hf dX10_mark_69
def fX10_mark (N : Nat) (σ : St) (a1 : Int32) (a2 : Int32) (Q : Int32 → St → Prop) : Prop := fX10_textAt N σ a1 (fun (r2 : Option Nat) (σ1 : St) => ((r2 = none → Q (-1 : Int32) σ1) ∧ (∀ i3, r2 = some i3 → ((a2 < (1 : Int32) → Q (-1 : Int32) σ1) ∧ (¬ a2 < (1 : Int32) → ((a2 ≤ (3 : Int32) → (((sF σ1 8 i3 5) = 0 → ((¬ a2 = (1 : Int32) → fX10_mark_b52 N a1 a2 Q σ1 (some i3)) ∧ (a2 = (1 : Int32) → fX8_isKnown N σ1 i3 (fun (r21 : Int32) (σ20 : St) => ((r21 = 0 → fX10_mark_b52 N a1 a2 Q σ20 (some i3)) ∧ (¬ r21 = 0 → Q (sF σ20 8 i3 1) σ20)))))) ∧ (¬ (sF σ1 8 i3 5) = 0 → fX10_found N σ1 (1 : Int32) (fun (r24 : Int32) (σ23 : St) => Q r24 σ23)))) ∧ (¬ a2 ≤ (3 : Int32) → Q (-1 : Int32) σ1)))))))
set_option maxHeartbeats 4000000 in
set_option maxRecDepth 100000 in
theorem eX10_mark {l : Launch} {E : EC} {lay : Nat → Nat → Nat} {L : List (Nat × Nat)} {A : Nat → Prop} {N : Nat} {σ : St} {a1 : Int32} {a2 : Int32} {Q : Int32 → St → Prop} (hf : fX10_mark N σ a1 a2 Q) (hm0 : (10, 0) ∈ L) : Met l yX10_mark (.code yX10_mark cX10_mark 4 (some .int) :: big) rmX10_mark (va_Pc [.ref (lay 10 0), .int a1, .int a2] (Bp E lay L A σ)) (va_Qi Q (Bd E lay L A) A) 0 0 A := by
  refine x_met (by decide +kernel) (Nat.le_of_ble_eq_true rfl) ?_
  intro p e s m args below meth c ls C hret hw hl
  have hx := C.1
  have hb := C.2.1
  have hl : lv_has ls 4 [(0, .ref (lay 10 0)), (1, .int a1), (2, .int a2)] := hl
  unfold fX10_mark at hf
  refine lv_aload_n hx hb dX10_mark_0 rfl (lv_at hl 0 rfl) ?_
  refine lv_iload_n hx hb dX10_mark_1 rfl (lv_at hl 1 rfl) ?_
  refine x_runq hw (x_V (n := 1) (rest := []) C hw hm0 (by decide) (eX10_textAt hf hm0) q513 q515 q9 q44 q516 rfl rfl (by decide +kernel) ⟨Nat.le_of_ble_eq_true rfl, Nat.le_of_ble_eq_true rfl⟩ rfl hl.1 rfl (Nat.le_of_ble_eq_true rfl) dX10_mark_2) (fun r2 σ1 H locs hf hOr2 hw => ?_)
  try dsimp only at hf
  refine x_astore_n (lv' := [(3, rf lay 8 r2), (0, .ref (lay 10 0)), (1, .int a1), (2, .int a2)]) hx hb dX10_mark_5 rfl hl (by decide) rfl (fun ls hl => ?_)
  refine x_aload_n hx hb dX10_mark_6 rfl (lv_at hl 0 rfl) ?_
  refine x_ifnull (r := r2) (tgt := 20) hx hb dX10_mark_7 (by decide) (fun eni3 => ?_) (fun i3 eni3 => ?_)
  · replace hf := hf.1 eni3
    refine lv_iconst (v := (-1)) hx hb dX10_mark_20 (by decide) ?_
    exact x_iret C hret hw hf dX10_mark_21
  · replace hf := hf.2 i3 eni3
    have hn_4 := hOr2 i3 eni3
    rw [eni3] at hl
    try rw [eni3]
    have hl : lv_has ls 4 [(3, .ref (lay 8 i3)), (0, .ref (lay 10 0)), (1, .int a1), (2, .int a2)] := hl
    refine lv_iload_n hx hb dX10_mark_10 rfl (lv_at hl 3 rfl) ?_
    refine lv_iconst (v := 1) hx hb dX10_mark_11 (by decide) ?_
    refine lv_icmp_lt (tgt := 20) hx hb dX10_mark_12 (by decide) (fun c5 => ?_) (fun c5 => ?_)
    · replace hf := hf.1 c5
      refine lv_iconst (v := (-1)) hx hb dX10_mark_20 (by decide) ?_
      exact x_iret C hret hw hf dX10_mark_21
    · replace hf := hf.2 c5
      refine lv_iload_n hx hb dX10_mark_15 rfl (lv_at hl 3 rfl) ?_
      refine lv_iconst (v := 3) hx hb dX10_mark_16 (by decide) ?_
      refine lv_icmp_le (tgt := 22) hx hb dX10_mark_17 (by decide) (fun c6 => ?_) (fun c6 => ?_)
      · replace hf := hf.1 c6
        refine lv_aload_n hx hb dX10_mark_22 rfl (lv_at hl 0 rfl) ?_
        refine x_getN (v := .int (sF σ1 8 i3 5)) (j := 5) (host := "WhoseHand") C hw hn_4 rfl (by decide) (by decide) rfl q420 dX10_mark_23 ?_
        refine lv_if_eq (tgt := 35) hx hb dX10_mark_26 (by decide) (fun c7 => ?_) (fun c7 => ?_)
        · replace hf := hf.1 c7
          refine lv_iload_n hx hb dX10_mark_35 rfl (lv_at hl 3 rfl) ?_
          refine lv_iconst (v := 1) hx hb dX10_mark_36 (by decide) ?_
          refine lv_icmp_ne (tgt := 52) hx hb dX10_mark_37 (by decide) (fun c8 => ?_) (fun c8 => ?_)
          · replace hf := hf.1 c8
            exact eX10_mark_b52 C hret hm0 σ1 (some i3) _ _ _ hf hw (lv_sub hl [1, 3, 0] rfl) (fun i h => by cases h; exact hn_4)
          · replace hf := hf.2 c8
            refine lv_aload_n hx hb dX10_mark_40 rfl (lv_at hl 0 rfl) ?_
            refine x_runi hw (x_V (n := 0) (rest := []) C hw hn_4 (by decide) (eX8_isKnown hf hn_4) q525 q526 q527 q55 q528 rfl rfl (by decide +kernel) ⟨Nat.le_of_ble_eq_true rfl, Nat.le_of_ble_eq_true rfl⟩ rfl hl.1 rfl (Nat.le_of_ble_eq_true rfl) dX10_mark_41) (fun r21 σ20 H locs hf hw => ?_)
            have hzr21 := hf.2
            replace hf := hf.1
            try dsimp only at hf
            refine lv_if_eq (tgt := 52) hx hb dX10_mark_44 (by decide) (fun c22 => ?_) (fun c22 => ?_)
            · replace hf := hf.1 c22
              exact eX10_mark_b52 C hret hm0 σ20 (some i3) _ _ _ hf hw (lv_sub hl [1, 3, 0] rfl) (fun i h => by cases h; exact hn_4)
            · replace hf := hf.2 c22
              refine lv_aload_n hx hb dX10_mark_47 rfl (lv_at hl 0 rfl) ?_
              refine x_getN (v := .int (sF σ20 8 i3 1)) (j := 1) (host := "WhoseHand") C hw hn_4 rfl (by decide) (by decide) rfl q407 dX10_mark_48 ?_
              exact x_iret C hret hw hf dX10_mark_51
        · replace hf := hf.2 c7
          refine lv_aload_n hx hb dX10_mark_29 rfl (lv_at hl 1 rfl) ?_
          refine lv_iconst (v := 1) hx hb dX10_mark_30 (by decide) ?_
          refine x_runi hw (x_V (n := 1) (rest := []) C hw hm0 (by decide) (eX10_found hf hm0) q340 q342 q1 q44 q343 rfl rfl (by decide +kernel) ⟨Nat.le_of_ble_eq_true rfl, Nat.le_of_ble_eq_true rfl⟩ rfl hl.1 rfl (Nat.le_of_ble_eq_true rfl) dX10_mark_31) (fun r24 σ23 H locs hf hw => ?_)
          try dsimp only at hf
          exact x_iret C hret hw hf dX10_mark_34
      · replace hf := hf.2 c6
        refine lv_iconst (v := (-1)) hx hb dX10_mark_20 (by decide) ?_
        exact x_iret C hret hw hf dX10_mark_21
-- X10_withdraw
abbrev rmX10_withdraw : Room := { frames := 1, cells := 0, slots := 0, locals := 21 }
def fX10_withdraw (N : Nat) (σ : St) (a1 : Int32) (Q : Int32 → St → Prop) : Prop := fX10_textAt N σ a1 (fun (r2 : Option Nat) (σ1 : St) => ((r2 = none → Q (-1 : Int32) σ1) ∧ (∀ i3, r2 = some i3 → (((sF σ1 8 i3 5) = 0 → ∀ σ6 : St, σ6 = setF σ1 8 i3 5 (1 : Int32) → Q (1 : Int32) σ6) ∧ (¬ (sF σ1 8 i3 5) = 0 → fX10_found N σ1 (1 : Int32) (fun (r8 : Int32) (σ7 : St) => Q r8 σ7))))))
set_option maxHeartbeats 4000000 in
set_option maxRecDepth 100000 in
theorem eX10_withdraw {l : Launch} {E : EC} {lay : Nat → Nat → Nat} {L : List (Nat × Nat)} {A : Nat → Prop} {N : Nat} {σ : St} {a1 : Int32} {Q : Int32 → St → Prop} (hf : fX10_withdraw N σ a1 Q) (hm0 : (10, 0) ∈ L) : Met l yX10_withdraw (.code yX10_withdraw cX10_withdraw 3 (some .int) :: big) rmX10_withdraw (va_Pc [.ref (lay 10 0), .int a1] (Bp E lay L A σ)) (va_Qi Q (Bd E lay L A) A) 0 0 A := by
  refine x_met (by decide +kernel) (Nat.le_of_ble_eq_true rfl) ?_
  intro p e s m args below meth c ls C hret hw hl
  have hx := C.1
  have hb := C.2.1
  have hl : lv_has ls 3 [(0, .ref (lay 10 0)), (1, .int a1)] := hl
  unfold fX10_withdraw at hf
  refine lv_aload_n hx hb dX10_withdraw_0 rfl (lv_at hl 0 rfl) ?_
  refine lv_iload_n hx hb dX10_withdraw_1 rfl (lv_at hl 1 rfl) ?_
  refine x_runq hw (x_V (n := 1) (rest := []) C hw hm0 (by decide) (eX10_textAt hf hm0) q513 q515 q9 q44 q516 rfl rfl (by decide +kernel) ⟨Nat.le_of_ble_eq_true rfl, Nat.le_of_ble_eq_true rfl⟩ rfl hl.1 rfl (Nat.le_of_ble_eq_true rfl) dX10_withdraw_2) (fun r2 σ1 H locs hf hOr2 hw => ?_)
  try dsimp only at hf
  refine x_astore_n (lv' := [(2, rf lay 8 r2), (0, .ref (lay 10 0)), (1, .int a1)]) hx hb dX10_withdraw_5 rfl hl (by decide) rfl (fun ls hl => ?_)
  refine x_aload_n hx hb dX10_withdraw_6 rfl (lv_at hl 0 rfl) ?_
  refine x_ifnonnull (r := r2) (tgt := 12) hx hb dX10_withdraw_7 (by decide) (fun eni3 => ?_) (fun i3 eni3 => ?_)
  · replace hf := hf.1 eni3
    refine lv_iconst (v := (-1)) hx hb dX10_withdraw_10 (by decide) ?_
    exact x_iret C hret hw hf dX10_withdraw_11
  · replace hf := hf.2 i3 eni3
    have hn_4 := hOr2 i3 eni3
    rw [eni3] at hl
    try rw [eni3]
    have hl : lv_has ls 3 [(2, .ref (lay 8 i3)), (0, .ref (lay 10 0)), (1, .int a1)] := hl
    refine lv_aload_n hx hb dX10_withdraw_12 rfl (lv_at hl 0 rfl) ?_
    refine x_getN (v := .int (sF σ1 8 i3 5)) (j := 5) (host := "WhoseHand") C hw hn_4 rfl (by decide) (by decide) rfl q420 dX10_withdraw_13 ?_
    refine lv_if_eq (tgt := 25) hx hb dX10_withdraw_16 (by decide) (fun c5 => ?_) (fun c5 => ?_)
    · replace hf := hf.1 c5
      refine lv_aload_n hx hb dX10_withdraw_25 rfl (lv_at hl 0 rfl) ?_
      refine lv_iconst (v := 1) hx hb dX10_withdraw_26 (by decide) ?_
      refine x_putIN (j := 5) (ty := .boolean) (host := "WhoseHand") C hw hn_4 rfl (by decide) (by decide) rfl rfl (by decide +kernel) (by decide) (by decide) q420 dX10_withdraw_27 (fun σ6 H locs eσ6 hw => ?_)
      replace hf := hf σ6 eσ6
      refine lv_iconst (v := 1) hx hb dX10_withdraw_30 (by decide) ?_
      exact x_iret C hret hw hf dX10_withdraw_31
    · replace hf := hf.2 c5
      refine lv_aload_n hx hb dX10_withdraw_19 rfl (lv_at hl 1 rfl) ?_
      refine lv_iconst (v := 1) hx hb dX10_withdraw_20 (by decide) ?_
      refine x_runi hw (x_V (n := 1) (rest := []) C hw hm0 (by decide) (eX10_found hf hm0) q340 q342 q1 q44 q343 rfl rfl (by decide +kernel) ⟨Nat.le_of_ble_eq_true rfl, Nat.le_of_ble_eq_true rfl⟩ rfl hl.1 rfl (Nat.le_of_ble_eq_true rfl) dX10_withdraw_21) (fun r8 σ7 H locs hf hw => ?_)
      try dsimp only at hf
      exact x_iret C hret hw hf dX10_withdraw_24
-- X10_isFeatureValue
abbrev rmX10_isFeatureValue : Room := { frames := 1, cells := 0, slots := 0, locals := 20 }
def fX10_isFeatureValue (N : Nat) (σ : St) (a0 : Int32) (a1 : Int32) (Q : Int32 → St → Prop) : Prop := ((a0 = (0 : Int32) → fX10_isLetterOrMark N σ a1 (fun (r2 : Int32) (σ1 : St) => Q r2 σ1)) ∧ (a0 = (1 : Int32) → ((a1 < (1 : Int32) → Q (0 : Int32) σ) ∧ (¬ a1 < (1 : Int32) → (((12 : Int32) < a1 → Q (0 : Int32) σ) ∧ (¬ (12 : Int32) < a1 → Q (1 : Int32) σ))))) ∧ (a0 = (2 : Int32) → fX10_isLetter N σ a1 (fun (r6 : Int32) (σ5 : St) => Q r6 σ5)) ∧ (a0 = (3 : Int32) → ((a1 < 0 → Q (0 : Int32) σ) ∧ (¬ a1 < 0 → (((4 : Int32) ≤ a1 → Q (0 : Int32) σ) ∧ (¬ (4 : Int32) ≤ a1 → Q (1 : Int32) σ))))) ∧ (¬ a0 = (0 : Int32) → ¬ a0 = (1 : Int32) → ¬ a0 = (2 : Int32) → ¬ a0 = (3 : Int32) → Q (0 : Int32) σ))
set_option maxHeartbeats 4000000 in
set_option maxRecDepth 100000 in
theorem eX10_isFeatureValue {l : Launch} {E : EC} {lay : Nat → Nat → Nat} {L : List (Nat × Nat)} {A : Nat → Prop} {N : Nat} {σ : St} {a0 : Int32} {a1 : Int32} {Q : Int32 → St → Prop} (hf : fX10_isFeatureValue N σ a0 a1 Q) : Met l yX10_isFeatureValue (.code yX10_isFeatureValue cX10_isFeatureValue 2 (some .boolean) :: big) rmX10_isFeatureValue (va_Pc [.int a0, .int a1] (Bp E lay L A σ)) (va_Qi (fun r u => Q r u ∧ narrow .boolean (.int r) = .int r) (Bd E lay L A) A) 0 0 A := by
  refine x_met (by decide +kernel) (Nat.le_of_ble_eq_true rfl) ?_
  intro p e s m args below meth c ls C hret hw hl
  have hx := C.1
  have hb := C.2.1
  have hl : lv_has ls 2 [(0, .int a0), (1, .int a1)] := hl
  unfold fX10_isFeatureValue at hf
  refine lv_iload_n hx hb dX10_isFeatureValue_0 rfl (lv_at hl 0 rfl) ?_
  by_cases c1_0 : a0 = (0 : Int32)
  · replace hf := hf.1 c1_0
    rw [c1_0]
    refine lv_tableIn (off := 31) (tgt := 32) hx hb dX10_isFeatureValue_1 (by decide) (by decide) (by decide) (by decide) ?_
    refine lv_iload_n hx hb dX10_isFeatureValue_32 rfl (lv_at hl 1 rfl) ?_
    refine x_runi hw (x_S (n := 1) (rest := []) C hw (eX10_isLetterOrMark hf) q540 q454 q44 q455 rfl rfl (by decide +kernel) ⟨Nat.le_of_ble_eq_true rfl, Nat.le_of_ble_eq_true rfl⟩ rfl hl.1 rfl (Nat.le_of_ble_eq_true rfl) dX10_isFeatureValue_33) (fun r2 σ1 H locs hf hw => ?_)
    have hzr2 := hf.2
    replace hf := hf.1
    try dsimp only at hf
    exact x_zret C hret hzr2 hw ⟨hf, hzr2⟩ dX10_isFeatureValue_36
  by_cases c1_1 : a0 = (1 : Int32)
  · replace hf := hf.2.1 c1_1
    rw [c1_1]
    refine lv_tableIn (off := 36) (tgt := 37) hx hb dX10_isFeatureValue_1 (by decide) (by decide) (by decide) (by decide) ?_
    refine lv_iload_n hx hb dX10_isFeatureValue_37 rfl (lv_at hl 1 rfl) ?_
    refine lv_iconst (v := 1) hx hb dX10_isFeatureValue_38 (by decide) ?_
    refine lv_icmp_lt (tgt := 52) hx hb dX10_isFeatureValue_39 (by decide) (fun c3 => ?_) (fun c3 => ?_)
    · replace hf := hf.1 c3
      refine lv_iconst (v := 0) hx hb dX10_isFeatureValue_52 (by decide) ?_
      exact x_zret C hret (by decide) hw ⟨hf, by decide⟩ dX10_isFeatureValue_53
    · replace hf := hf.2 c3
      refine lv_iload_n hx hb dX10_isFeatureValue_42 rfl (lv_at hl 1 rfl) ?_
      refine lv_bipush (v := 12) hx hb dX10_isFeatureValue_43 (by decide) ?_
      refine lv_icmp_gt (tgt := 52) hx hb dX10_isFeatureValue_45 (by decide) (fun c4 => ?_) (fun c4 => ?_)
      · replace hf := hf.1 c4
        refine lv_iconst (v := 0) hx hb dX10_isFeatureValue_52 (by decide) ?_
        exact x_zret C hret (by decide) hw ⟨hf, by decide⟩ dX10_isFeatureValue_53
      · replace hf := hf.2 c4
        refine lv_iconst (v := 1) hx hb dX10_isFeatureValue_48 (by decide) ?_
        refine lv_goto (tgt := 53) hx hb dX10_isFeatureValue_49 (by decide) ?_
        exact x_zret C hret (by decide) hw ⟨hf, by decide⟩ dX10_isFeatureValue_53
  by_cases c1_2 : a0 = (2 : Int32)
  · replace hf := hf.2.2.1 c1_2
    rw [c1_2]
    refine lv_tableIn (off := 53) (tgt := 54) hx hb dX10_isFeatureValue_1 (by decide) (by decide) (by decide) (by decide) ?_
    refine lv_iload_n hx hb dX10_isFeatureValue_54 rfl (lv_at hl 1 rfl) ?_
    refine x_runi hw (x_S (n := 1) (rest := []) C hw (eX10_isLetter hf) q541 q457 q44 q458 rfl rfl (by decide +kernel) ⟨Nat.le_of_ble_eq_true rfl, Nat.le_of_ble_eq_true rfl⟩ rfl hl.1 rfl (Nat.le_of_ble_eq_true rfl) dX10_isFeatureValue_55) (fun r6 σ5 H locs hf hw => ?_)
    have hzr6 := hf.2
    replace hf := hf.1
    try dsimp only at hf
    exact x_zret C hret hzr6 hw ⟨hf, hzr6⟩ dX10_isFeatureValue_58
  by_cases c1_3 : a0 = (3 : Int32)
  · replace hf := hf.2.2.2.1 c1_3
    rw [c1_3]
    refine lv_tableIn (off := 58) (tgt := 59) hx hb dX10_isFeatureValue_1 (by decide) (by decide) (by decide) (by decide) ?_
    refine lv_iload_n hx hb dX10_isFeatureValue_59 rfl (lv_at hl 1 rfl) ?_
    refine lv_if_lt (tgt := 72) hx hb dX10_isFeatureValue_60 (by decide) (fun c7 => ?_) (fun c7 => ?_)
    · replace hf := hf.1 c7
      refine lv_iconst (v := 0) hx hb dX10_isFeatureValue_72 (by decide) ?_
      exact x_zret C hret (by decide) hw ⟨hf, by decide⟩ dX10_isFeatureValue_73
    · replace hf := hf.2 c7
      refine lv_iload_n hx hb dX10_isFeatureValue_63 rfl (lv_at hl 1 rfl) ?_
      refine lv_iconst (v := 4) hx hb dX10_isFeatureValue_64 (by decide) ?_
      refine lv_icmp_ge (tgt := 72) hx hb dX10_isFeatureValue_65 (by decide) (fun c8 => ?_) (fun c8 => ?_)
      · replace hf := hf.1 c8
        refine lv_iconst (v := 0) hx hb dX10_isFeatureValue_72 (by decide) ?_
        exact x_zret C hret (by decide) hw ⟨hf, by decide⟩ dX10_isFeatureValue_73
      · replace hf := hf.2 c8
        refine lv_iconst (v := 1) hx hb dX10_isFeatureValue_68 (by decide) ?_
        refine lv_goto (tgt := 73) hx hb dX10_isFeatureValue_69 (by decide) ?_
        exact x_zret C hret (by decide) hw ⟨hf, by decide⟩ dX10_isFeatureValue_73
  replace hf := hf.2.2.2.2 c1_0 c1_1 c1_2 c1_3
  refine lv_tableOut (tgt := 74) (x := a0) hx hb dX10_isFeatureValue_1 (by have h := sw_out (x := a0) 0 4 (by decide) (fun k hk0 hk => by rcases (show k = 0 ∨ k = 1 ∨ k = 2 ∨ k = 3 by omega) with rfl | rfl | rfl | rfl <;> first | exact c1_0 | exact c1_1 | exact c1_2 | exact c1_3); omega) (by decide) ?_
  refine lv_iconst (v := 0) hx hb dX10_isFeatureValue_74 (by decide) ?_
  exact x_zret C hret (by decide) hw ⟨hf, by decide⟩ dX10_isFeatureValue_75
-- X10_counts
abbrev rmX10_counts : Room := { frames := 1, cells := 0, slots := 0, locals := 21 }
def fX10_counts (N : Nat) (σ : St) (a1 : Int32) (a2 : Int32) (Q : Int32 → St → Prop) : Prop := fX10_textAt N σ a2 (fun (r2 : Option Nat) (σ1 : St) => ((r2 = none → Q (-1 : Int32) σ1) ∧ (∀ i3, r2 = some i3 → fX2_has N σ1 a1 (fun (r7 : Int32) (σ6 : St) => ((¬ r7 = 0 → (((sF σ6 8 i3 5) = 0 → fX7_countOf N σ6 i3 a1 (fun (r12 : Int32) (σ11 : St) => Q r12 σ11)) ∧ (¬ (sF σ6 8 i3 5) = 0 → fX10_found N σ6 (1 : Int32) (fun (r14 : Int32) (σ13 : St) => Q r14 σ13)))) ∧ (r7 = 0 → Q (-1 : Int32) σ6))))))
set_option maxHeartbeats 4000000 in
set_option maxRecDepth 100000 in
theorem eX10_counts {l : Launch} {E : EC} {lay : Nat → Nat → Nat} {L : List (Nat × Nat)} {A : Nat → Prop} {N : Nat} {σ : St} {a1 : Int32} {a2 : Int32} {Q : Int32 → St → Prop} (hf : fX10_counts N σ a1 a2 Q) (hm0 : (10, 0) ∈ L) : Met l yX10_counts (.code yX10_counts cX10_counts 4 (some .int) :: big) rmX10_counts (va_Pc [.ref (lay 10 0), .int a1, .int a2] (Bp E lay L A σ)) (va_Qi Q (Bd E lay L A) A) 0 0 A := by
  refine x_met (by decide +kernel) (Nat.le_of_ble_eq_true rfl) ?_
  intro p e s m args below meth c ls C hret hw hl
  have hx := C.1
  have hb := C.2.1
  have hl : lv_has ls 4 [(0, .ref (lay 10 0)), (1, .int a1), (2, .int a2)] := hl
  unfold fX10_counts at hf
  refine lv_aload_n hx hb dX10_counts_0 rfl (lv_at hl 0 rfl) ?_
  refine lv_iload_n hx hb dX10_counts_1 rfl (lv_at hl 2 rfl) ?_
  refine x_runq hw (x_V (n := 1) (rest := []) C hw hm0 (by decide) (eX10_textAt hf hm0) q513 q515 q9 q44 q516 rfl rfl (by decide +kernel) ⟨Nat.le_of_ble_eq_true rfl, Nat.le_of_ble_eq_true rfl⟩ rfl hl.1 rfl (Nat.le_of_ble_eq_true rfl) dX10_counts_2) (fun r2 σ1 H locs hf hOr2 hw => ?_)
  try dsimp only at hf
  refine x_astore_n (lv' := [(3, rf lay 8 r2), (0, .ref (lay 10 0)), (1, .int a1), (2, .int a2)]) hx hb dX10_counts_5 rfl hl (by decide) rfl (fun ls hl => ?_)
  refine x_aload_n hx hb dX10_counts_6 rfl (lv_at hl 0 rfl) ?_
  refine x_ifnull (r := r2) (tgt := 21) hx hb dX10_counts_7 (by decide) (fun eni3 => ?_) (fun i3 eni3 => ?_)
  · replace hf := hf.1 eni3
    refine lv_iconst (v := (-1)) hx hb dX10_counts_21 (by decide) ?_
    exact x_iret C hret hw hf dX10_counts_22
  · replace hf := hf.2 i3 eni3
    have hn_4 := hOr2 i3 eni3
    rw [eni3] at hl
    try rw [eni3]
    have hl : lv_has ls 4 [(3, .ref (lay 8 i3)), (0, .ref (lay 10 0)), (1, .int a1), (2, .int a2)] := hl
    refine lv_aload_n hx hb dX10_counts_10 rfl (lv_at hl 1 rfl) ?_
    have hm_5 : (2, 0) ∈ L := hw.2.2.2.1 10 0 hm0 2 (by decide) (by decide) rfl
    refine x_get (v := .ref (lay 2 0)) (j := 2) C hw hm0 rfl (by decide) (by decide) rfl q291 dX10_counts_11 ?_
    refine lv_iload_n hx hb dX10_counts_14 rfl (lv_at hl 2 rfl) ?_
    refine x_runi hw (x_V (n := 1) (rest := []) C hw hm_5 (by decide) (eX2_has hf hm_5) q579 q580 q581 q45 q582 rfl rfl (by decide +kernel) ⟨Nat.le_of_ble_eq_true rfl, Nat.le_of_ble_eq_true rfl⟩ rfl hl.1 rfl (Nat.le_of_ble_eq_true rfl) dX10_counts_15) (fun r7 σ6 H locs hf hw => ?_)
    have hzr7 := hf.2
    replace hf := hf.1
    try dsimp only at hf
    refine lv_if_ne (tgt := 23) hx hb dX10_counts_18 (by decide) (fun c8 => ?_) (fun c8 => ?_)
    · replace hf := hf.1 c8
      refine lv_aload_n hx hb dX10_counts_23 rfl (lv_at hl 0 rfl) ?_
      refine x_getN (v := .int (sF σ6 8 i3 5)) (j := 5) (host := "WhoseHand") C hw hn_4 rfl (by decide) (by decide) rfl q420 dX10_counts_24 ?_
      refine lv_if_eq (tgt := 36) hx hb dX10_counts_27 (by decide) (fun c9 => ?_) (fun c9 => ?_)
      · replace hf := hf.1 c9
        refine lv_aload_n hx hb dX10_counts_36 rfl (lv_at hl 0 rfl) ?_
        have hm_10 : (7, i3) ∈ L := hw.2.2.2.1 8 i3 hn_4 4 (by decide) (by decide) rfl
        refine x_getN (v := .ref (lay 7 i3)) (j := 4) (host := "WhoseHand") C hw hn_4 rfl (by decide) (by decide) rfl q417 dX10_counts_37 ?_
        refine lv_iload_n hx hb dX10_counts_40 rfl (lv_at hl 2 rfl) ?_
        refine x_runi hw (x_V (n := 1) (rest := []) C hw hm_10 (by decide) (eX7_countOf hf hm_10) q583 q584 q585 q47 q586 rfl rfl (by decide +kernel) ⟨Nat.le_of_ble_eq_true rfl, Nat.le_of_ble_eq_true rfl⟩ rfl hl.1 rfl (Nat.le_of_ble_eq_true rfl) dX10_counts_41) (fun r12 σ11 H locs hf hw => ?_)
        try dsimp only at hf
        exact x_iret C hret hw hf dX10_counts_44
      · replace hf := hf.2 c9
        refine lv_aload_n hx hb dX10_counts_30 rfl (lv_at hl 1 rfl) ?_
        refine lv_iconst (v := 1) hx hb dX10_counts_31 (by decide) ?_
        refine x_runi hw (x_V (n := 1) (rest := []) C hw hm0 (by decide) (eX10_found hf hm0) q340 q342 q1 q44 q343 rfl rfl (by decide +kernel) ⟨Nat.le_of_ble_eq_true rfl, Nat.le_of_ble_eq_true rfl⟩ rfl hl.1 rfl (Nat.le_of_ble_eq_true rfl) dX10_counts_32) (fun r14 σ13 H locs hf hw => ?_)
        try dsimp only at hf
        exact x_iret C hret hw hf dX10_counts_35
    · replace hf := hf.2 c8
      refine lv_iconst (v := (-1)) hx hb dX10_counts_21 (by decide) ?_
      exact x_iret C hret hw hf dX10_counts_22
-- X10_rate
abbrev rmX10_rate : Room := { frames := 2, cells := 0, slots := 0, locals := 44 }
def fX10_rate (N : Nat) (σ : St) (a1 : Int32) (a2 : Int32) (Q : Int32 → St → Prop) : Prop := fX10_textAt N σ a2 (fun (r2 : Option Nat) (σ1 : St) => ((r2 = none → Q (-1 : Int32) σ1) ∧ (∀ i3, r2 = some i3 → fX2_has N σ1 a1 (fun (r7 : Int32) (σ6 : St) => ((¬ r7 = 0 → (((sF σ6 8 i3 5) = 0 → fX2_rateIn N σ6 i3 a1 (fun (r13 : Int32) (σ12 : St) => Q r13 σ12)) ∧ (¬ (sF σ6 8 i3 5) = 0 → fX10_found N σ6 (1 : Int32) (fun (r15 : Int32) (σ14 : St) => Q r15 σ14)))) ∧ (r7 = 0 → Q (-1 : Int32) σ6))))))
set_option maxHeartbeats 4000000 in
set_option maxRecDepth 100000 in
theorem eX10_rate {l : Launch} {E : EC} {lay : Nat → Nat → Nat} {L : List (Nat × Nat)} {A : Nat → Prop} {N : Nat} {σ : St} {a1 : Int32} {a2 : Int32} {Q : Int32 → St → Prop} (hf : fX10_rate N σ a1 a2 Q) (hm0 : (10, 0) ∈ L) : Met l yX10_rate (.code yX10_rate cX10_rate 4 (some .int) :: big) rmX10_rate (va_Pc [.ref (lay 10 0), .int a1, .int a2] (Bp E lay L A σ)) (va_Qi Q (Bd E lay L A) A) 0 0 A := by
  refine x_met (by decide +kernel) (Nat.le_of_ble_eq_true rfl) ?_
  intro p e s m args below meth c ls C hret hw hl
  have hx := C.1
  have hb := C.2.1
  have hl : lv_has ls 4 [(0, .ref (lay 10 0)), (1, .int a1), (2, .int a2)] := hl
  unfold fX10_rate at hf
  refine lv_aload_n hx hb dX10_rate_0 rfl (lv_at hl 0 rfl) ?_
  refine lv_iload_n hx hb dX10_rate_1 rfl (lv_at hl 2 rfl) ?_
  refine x_runq hw (x_V (n := 1) (rest := []) C hw hm0 (by decide) (eX10_textAt hf hm0) q513 q515 q9 q44 q516 rfl rfl (by decide +kernel) ⟨Nat.le_of_ble_eq_true rfl, Nat.le_of_ble_eq_true rfl⟩ rfl hl.1 rfl (Nat.le_of_ble_eq_true rfl) dX10_rate_2) (fun r2 σ1 H locs hf hOr2 hw => ?_)
  try dsimp only at hf
  refine x_astore_n (lv' := [(3, rf lay 8 r2), (0, .ref (lay 10 0)), (1, .int a1), (2, .int a2)]) hx hb dX10_rate_5 rfl hl (by decide) rfl (fun ls hl => ?_)
  refine x_aload_n hx hb dX10_rate_6 rfl (lv_at hl 0 rfl) ?_
  refine x_ifnull (r := r2) (tgt := 21) hx hb dX10_rate_7 (by decide) (fun eni3 => ?_) (fun i3 eni3 => ?_)
  · replace hf := hf.1 eni3
    refine lv_iconst (v := (-1)) hx hb dX10_rate_21 (by decide) ?_
    exact x_iret C hret hw hf dX10_rate_22
  · replace hf := hf.2 i3 eni3
    have hn_4 := hOr2 i3 eni3
    rw [eni3] at hl
    try rw [eni3]
    have hl : lv_has ls 4 [(3, .ref (lay 8 i3)), (0, .ref (lay 10 0)), (1, .int a1), (2, .int a2)] := hl
    refine lv_aload_n hx hb dX10_rate_10 rfl (lv_at hl 1 rfl) ?_
    have hm_5 : (2, 0) ∈ L := hw.2.2.2.1 10 0 hm0 2 (by decide) (by decide) rfl
    refine x_get (v := .ref (lay 2 0)) (j := 2) C hw hm0 rfl (by decide) (by decide) rfl q291 dX10_rate_11 ?_
    refine lv_iload_n hx hb dX10_rate_14 rfl (lv_at hl 2 rfl) ?_
    refine x_runi hw (x_V (n := 1) (rest := []) C hw hm_5 (by decide) (eX2_has hf hm_5) q579 q580 q581 q45 q582 rfl rfl (by decide +kernel) ⟨Nat.le_of_ble_eq_true rfl, Nat.le_of_ble_eq_true rfl⟩ rfl hl.1 rfl (Nat.le_of_ble_eq_true rfl) dX10_rate_15) (fun r7 σ6 H locs hf hw => ?_)
    have hzr7 := hf.2
    replace hf := hf.1
    try dsimp only at hf
    refine lv_if_ne (tgt := 23) hx hb dX10_rate_18 (by decide) (fun c8 => ?_) (fun c8 => ?_)
    · replace hf := hf.1 c8
      refine lv_aload_n hx hb dX10_rate_23 rfl (lv_at hl 0 rfl) ?_
      refine x_getN (v := .int (sF σ6 8 i3 5)) (j := 5) (host := "WhoseHand") C hw hn_4 rfl (by decide) (by decide) rfl q420 dX10_rate_24 ?_
      refine lv_if_eq (tgt := 36) hx hb dX10_rate_27 (by decide) (fun c9 => ?_) (fun c9 => ?_)
      · replace hf := hf.1 c9
        refine lv_aload_n hx hb dX10_rate_36 rfl (lv_at hl 1 rfl) ?_
        have hm_10 : (2, 0) ∈ L := hw.2.2.2.1 10 0 hm0 2 (by decide) (by decide) rfl
        refine x_get (v := .ref (lay 2 0)) (j := 2) C hw hm0 rfl (by decide) (by decide) rfl q291 dX10_rate_37 ?_
        refine lv_aload_n hx hb dX10_rate_40 rfl (lv_at hl 0 rfl) ?_
        have hm_11 : (7, i3) ∈ L := hw.2.2.2.1 8 i3 hn_4 4 (by decide) (by decide) rfl
        refine x_getN (v := .ref (lay 7 i3)) (j := 4) (host := "WhoseHand") C hw hn_4 rfl (by decide) (by decide) rfl q417 dX10_rate_41 ?_
        refine lv_iload_n hx hb dX10_rate_44 rfl (lv_at hl 2 rfl) ?_
        refine x_runi hw (x_V (n := 2) (rest := []) C hw hm_10 (by decide) (eX2_rateIn hf hm_10 hm_11) q591 q592 q593 q45 q594 rfl rfl (by decide +kernel) ⟨Nat.le_of_ble_eq_true rfl, Nat.le_of_ble_eq_true rfl⟩ rfl hl.1 rfl (Nat.le_of_ble_eq_true rfl) dX10_rate_45) (fun r13 σ12 H locs hf hw => ?_)
        try dsimp only at hf
        exact x_iret C hret hw hf dX10_rate_48
      · replace hf := hf.2 c9
        refine lv_aload_n hx hb dX10_rate_30 rfl (lv_at hl 1 rfl) ?_
        refine lv_iconst (v := 1) hx hb dX10_rate_31 (by decide) ?_
        refine x_runi hw (x_V (n := 1) (rest := []) C hw hm0 (by decide) (eX10_found hf hm0) q340 q342 q1 q44 q343 rfl rfl (by decide +kernel) ⟨Nat.le_of_ble_eq_true rfl, Nat.le_of_ble_eq_true rfl⟩ rfl hl.1 rfl (Nat.le_of_ble_eq_true rfl) dX10_rate_32) (fun r15 σ14 H locs hf hw => ?_)
        try dsimp only at hf
        exact x_iret C hret hw hf dX10_rate_35
    · replace hf := hf.2 c8
      refine lv_iconst (v := (-1)) hx hb dX10_rate_21 (by decide) ?_
      exact x_iret C hret hw hf dX10_rate_22
-- X10_hand
abbrev rmX10_hand : Room := { frames := 4, cells := 0, slots := 0, locals := 92 }
def fX10_hand (N : Nat) (σ : St) (a1 : Int32) (a2 : Int32) (Q : Int32 → St → Prop) : Prop := fX2_has N σ a1 (fun (r3 : Int32) (σ2 : St) => ((r3 = 0 → Q (-1 : Int32) σ2) ∧ (¬ r3 = 0 → fX10_isWriter N σ2 a2 (fun (r6 : Int32) (σ5 : St) => ((¬ r6 = 0 → fX1_readWithout N σ5 (-1 : Int32) (fun (σ11 : St) => fX1_has N σ11 a2 (fun (r14 : Int32) (σ13 : St) => ((¬ r14 = 0 → fX1_rateOf N σ13 a2 a1 (fun (r18 : Int32) (σ17 : St) => Q r18 σ17)) ∧ (r14 = 0 → fX10_found N σ13 (4 : Int32) (fun (r20 : Int32) (σ19 : St) => Q r20 σ19)))))) ∧ (r6 = 0 → Q (-1 : Int32) σ5))))))
set_option maxHeartbeats 4000000 in
set_option maxRecDepth 100000 in
theorem eX10_hand {l : Launch} {E : EC} {lay : Nat → Nat → Nat} {L : List (Nat × Nat)} {A : Nat → Prop} {N : Nat} {σ : St} {a1 : Int32} {a2 : Int32} {Q : Int32 → St → Prop} (hf : fX10_hand N σ a1 a2 Q) (hm0 : (10, 0) ∈ L) : Met l yX10_hand (.code yX10_hand cX10_hand 3 (some .int) :: big) rmX10_hand (va_Pc [.ref (lay 10 0), .int a1, .int a2] (Bp E lay L A σ)) (va_Qi Q (Bd E lay L A) A) 0 0 A := by
  refine x_met (by decide +kernel) (Nat.le_of_ble_eq_true rfl) ?_
  intro p e s m args below meth c ls C hret hw hl
  have hx := C.1
  have hb := C.2.1
  have hl : lv_has ls 3 [(0, .ref (lay 10 0)), (1, .int a1), (2, .int a2)] := hl
  unfold fX10_hand at hf
  refine lv_aload_n hx hb dX10_hand_0 rfl (lv_at hl 0 rfl) ?_
  have hm_1 : (2, 0) ∈ L := hw.2.2.2.1 10 0 hm0 2 (by decide) (by decide) rfl
  refine x_get (v := .ref (lay 2 0)) (j := 2) C hw hm0 rfl (by decide) (by decide) rfl q291 dX10_hand_1 ?_
  refine lv_iload_n hx hb dX10_hand_4 rfl (lv_at hl 1 rfl) ?_
  refine x_runi hw (x_V (n := 1) (rest := []) C hw hm_1 (by decide) (eX2_has hf hm_1) q579 q580 q581 q45 q582 rfl rfl (by decide +kernel) ⟨Nat.le_of_ble_eq_true rfl, Nat.le_of_ble_eq_true rfl⟩ rfl hl.1 rfl (Nat.le_of_ble_eq_true rfl) dX10_hand_5) (fun r3 σ2 H locs hf hw => ?_)
  have hzr3 := hf.2
  replace hf := hf.1
  try dsimp only at hf
  refine lv_if_eq (tgt := 18) hx hb dX10_hand_8 (by decide) (fun c4 => ?_) (fun c4 => ?_)
  · replace hf := hf.1 c4
    refine lv_iconst (v := (-1)) hx hb dX10_hand_18 (by decide) ?_
    exact x_iret C hret hw hf dX10_hand_19
  · replace hf := hf.2 c4
    refine lv_iload_n hx hb dX10_hand_11 rfl (lv_at hl 2 rfl) ?_
    refine x_runi hw (x_S (n := 1) (rest := []) C hw (eX10_isWriter hf) q392 q393 q44 q394 rfl rfl (by decide +kernel) ⟨Nat.le_of_ble_eq_true rfl, Nat.le_of_ble_eq_true rfl⟩ rfl hl.1 rfl (Nat.le_of_ble_eq_true rfl) dX10_hand_12) (fun r6 σ5 H locs hf hw => ?_)
    have hzr6 := hf.2
    replace hf := hf.1
    try dsimp only at hf
    refine lv_if_ne (tgt := 20) hx hb dX10_hand_15 (by decide) (fun c7 => ?_) (fun c7 => ?_)
    · replace hf := hf.1 c7
      refine lv_aload_n hx hb dX10_hand_20 rfl (lv_at hl 0 rfl) ?_
      have hm_8 : (1, 0) ∈ L := hw.2.2.2.1 10 0 hm0 3 (by decide) (by decide) rfl
      refine x_get (v := .ref (lay 1 0)) (j := 3) C hw hm0 rfl (by decide) (by decide) rfl q292 dX10_hand_21 ?_
      refine lv_iconst (v := (-1)) hx hb dX10_hand_24 (by decide) ?_
      refine lv_aload_n hx hb dX10_hand_25 rfl (lv_at hl 0 rfl) ?_
      have hm_9 : (21, 0) ∈ L := hw.2.2.2.1 10 0 hm0 1 (by decide) (by decide) rfl
      refine x_get (v := .ref (lay 21 0)) (j := 1) C hw hm0 rfl (by decide) (by decide) rfl q290 dX10_hand_26 ?_
      refine lv_aload_n hx hb dX10_hand_29 rfl (lv_at hl 0 rfl) ?_
      have hm_10 : (2, 0) ∈ L := hw.2.2.2.1 10 0 hm0 2 (by decide) (by decide) rfl
      refine x_get (v := .ref (lay 2 0)) (j := 2) C hw hm0 rfl (by decide) (by decide) rfl q291 dX10_hand_30 ?_
      refine x_runv hw (x_V (n := 3) (rest := []) C hw hm_8 (by decide) (eX1_readWithout hf hm_8 hm_9 hm_10) q607 q608 q609 q46 q610 rfl rfl (by decide +kernel) ⟨Nat.le_of_ble_eq_true rfl, Nat.le_of_ble_eq_true rfl⟩ rfl hl.1 rfl (Nat.le_of_ble_eq_true rfl) dX10_hand_33) (fun σ11 H locs hf hw => ?_)
      try dsimp only at hf
      refine lv_aload_n hx hb dX10_hand_36 rfl (lv_at hl 0 rfl) ?_
      have hm_12 : (1, 0) ∈ L := hw.2.2.2.1 10 0 hm0 3 (by decide) (by decide) rfl
      refine x_get (v := .ref (lay 1 0)) (j := 3) C hw hm0 rfl (by decide) (by decide) rfl q292 dX10_hand_37 ?_
      refine lv_iload_n hx hb dX10_hand_40 rfl (lv_at hl 2 rfl) ?_
      refine x_runi hw (x_V (n := 1) (rest := []) C hw hm_12 (by decide) (eX1_has hf hm_12) q633 q634 q635 q46 q636 rfl rfl (by decide +kernel) ⟨Nat.le_of_ble_eq_true rfl, Nat.le_of_ble_eq_true rfl⟩ rfl hl.1 rfl (Nat.le_of_ble_eq_true rfl) dX10_hand_41) (fun r14 σ13 H locs hf hw => ?_)
      have hzr14 := hf.2
      replace hf := hf.1
      try dsimp only at hf
      refine lv_if_ne (tgt := 53) hx hb dX10_hand_44 (by decide) (fun c15 => ?_) (fun c15 => ?_)
      · replace hf := hf.1 c15
        refine lv_aload_n hx hb dX10_hand_53 rfl (lv_at hl 0 rfl) ?_
        have hm_16 : (1, 0) ∈ L := hw.2.2.2.1 10 0 hm0 3 (by decide) (by decide) rfl
        refine x_get (v := .ref (lay 1 0)) (j := 3) C hw hm0 rfl (by decide) (by decide) rfl q292 dX10_hand_54 ?_
        refine lv_iload_n hx hb dX10_hand_57 rfl (lv_at hl 2 rfl) ?_
        refine lv_iload_n hx hb dX10_hand_58 rfl (lv_at hl 1 rfl) ?_
        refine x_runi hw (x_V (n := 2) (rest := []) C hw hm_16 (by decide) (eX1_rateOf hf hm_16) q637 q638 q639 q46 q640 rfl rfl (by decide +kernel) ⟨Nat.le_of_ble_eq_true rfl, Nat.le_of_ble_eq_true rfl⟩ rfl hl.1 rfl (Nat.le_of_ble_eq_true rfl) dX10_hand_59) (fun r18 σ17 H locs hf hw => ?_)
        try dsimp only at hf
        exact x_iret C hret hw hf dX10_hand_62
      · replace hf := hf.2 c15
        refine lv_aload_n hx hb dX10_hand_47 rfl (lv_at hl 0 rfl) ?_
        refine lv_iconst (v := 4) hx hb dX10_hand_48 (by decide) ?_
        refine x_runi hw (x_V (n := 1) (rest := []) C hw hm0 (by decide) (eX10_found hf hm0) q340 q342 q1 q44 q343 rfl rfl (by decide +kernel) ⟨Nat.le_of_ble_eq_true rfl, Nat.le_of_ble_eq_true rfl⟩ rfl hl.1 rfl (Nat.le_of_ble_eq_true rfl) dX10_hand_49) (fun r20 σ19 H locs hf hw => ?_)
        try dsimp only at hf
        exact x_iret C hret hw hf dX10_hand_52
    · replace hf := hf.2 c7
      refine lv_iconst (v := (-1)) hx hb dX10_hand_18 (by decide) ?_
      exact x_iret C hret hw hf dX10_hand_19
-- X10_mean
abbrev rmX10_mean : Room := { frames := 1, cells := 0, slots := 0, locals := 21 }
def fX10_mean (N : Nat) (σ : St) (a1 : Int32) (Q : Int32 → St → Prop) : Prop := fX10_textAt N σ a1 (fun (r2 : Option Nat) (σ1 : St) => ((r2 = none → Q (-1 : Int32) σ1) ∧ (∀ i3, r2 = some i3 → (((sF σ1 8 i3 5) = 0 → ((¬ (sF σ1 4 i3 4) = 0 → (¬ (sF σ1 4 i3 4) = 0 ∧ Q ((sF σ1 4 i3 5) / (sF σ1 4 i3 4)) σ1)) ∧ ((sF σ1 4 i3 4) = 0 → fX10_found N σ1 (4 : Int32) (fun (r11 : Int32) (σ10 : St) => Q r11 σ10)))) ∧ (¬ (sF σ1 8 i3 5) = 0 → fX10_found N σ1 (1 : Int32) (fun (r13 : Int32) (σ12 : St) => Q r13 σ12))))))
set_option maxHeartbeats 4000000 in
set_option maxRecDepth 100000 in
theorem eX10_mean {l : Launch} {E : EC} {lay : Nat → Nat → Nat} {L : List (Nat × Nat)} {A : Nat → Prop} {N : Nat} {σ : St} {a1 : Int32} {Q : Int32 → St → Prop} (hf : fX10_mean N σ a1 Q) (hm0 : (10, 0) ∈ L) : Met l yX10_mean (.code yX10_mean cX10_mean 3 (some .int) :: big) rmX10_mean (va_Pc [.ref (lay 10 0), .int a1] (Bp E lay L A σ)) (va_Qi Q (Bd E lay L A) A) 0 0 A := by
  refine x_met (by decide +kernel) (Nat.le_of_ble_eq_true rfl) ?_
  intro p e s m args below meth c ls C hret hw hl
  have hx := C.1
  have hb := C.2.1
  have hl : lv_has ls 3 [(0, .ref (lay 10 0)), (1, .int a1)] := hl
  unfold fX10_mean at hf
  refine lv_aload_n hx hb dX10_mean_0 rfl (lv_at hl 0 rfl) ?_
  refine lv_iload_n hx hb dX10_mean_1 rfl (lv_at hl 1 rfl) ?_
  refine x_runq hw (x_V (n := 1) (rest := []) C hw hm0 (by decide) (eX10_textAt hf hm0) q513 q515 q9 q44 q516 rfl rfl (by decide +kernel) ⟨Nat.le_of_ble_eq_true rfl, Nat.le_of_ble_eq_true rfl⟩ rfl hl.1 rfl (Nat.le_of_ble_eq_true rfl) dX10_mean_2) (fun r2 σ1 H locs hf hOr2 hw => ?_)
  try dsimp only at hf
  refine x_astore_n (lv' := [(2, rf lay 8 r2), (0, .ref (lay 10 0)), (1, .int a1)]) hx hb dX10_mean_5 rfl hl (by decide) rfl (fun ls hl => ?_)
  refine x_aload_n hx hb dX10_mean_6 rfl (lv_at hl 0 rfl) ?_
  refine x_ifnonnull (r := r2) (tgt := 12) hx hb dX10_mean_7 (by decide) (fun eni3 => ?_) (fun i3 eni3 => ?_)
  · replace hf := hf.1 eni3
    refine lv_iconst (v := (-1)) hx hb dX10_mean_10 (by decide) ?_
    exact x_iret C hret hw hf dX10_mean_11
  · replace hf := hf.2 i3 eni3
    have hn_4 := hOr2 i3 eni3
    rw [eni3] at hl
    try rw [eni3]
    have hl : lv_has ls 3 [(2, .ref (lay 8 i3)), (0, .ref (lay 10 0)), (1, .int a1)] := hl
    refine lv_aload_n hx hb dX10_mean_12 rfl (lv_at hl 0 rfl) ?_
    refine x_getN (v := .int (sF σ1 8 i3 5)) (j := 5) (host := "WhoseHand") C hw hn_4 rfl (by decide) (by decide) rfl q420 dX10_mean_13 ?_
    refine lv_if_eq (tgt := 25) hx hb dX10_mean_16 (by decide) (fun c5 => ?_) (fun c5 => ?_)
    · replace hf := hf.1 c5
      refine lv_aload_n hx hb dX10_mean_25 rfl (lv_at hl 0 rfl) ?_
      have hm_6 : (4, i3) ∈ L := hw.2.2.2.1 8 i3 hn_4 3 (by decide) (by decide) rfl
      refine x_getN (v := .ref (lay 4 i3)) (j := 3) (host := "WhoseHand") C hw hn_4 rfl (by decide) (by decide) rfl q412 dX10_mean_26 ?_
      refine x_getN (v := .int (sF σ1 4 i3 4)) (j := 4) (host := "WhoseHand") C hw hm_6 rfl (by decide) (by decide) rfl q250 dX10_mean_29 ?_
      refine lv_if_ne (tgt := 41) hx hb dX10_mean_32 (by decide) (fun c7 => ?_) (fun c7 => ?_)
      · replace hf := hf.1 c7
        refine lv_aload_n hx hb dX10_mean_41 rfl (lv_at hl 0 rfl) ?_
        have hm_8 : (4, i3) ∈ L := hw.2.2.2.1 8 i3 hn_4 3 (by decide) (by decide) rfl
        refine x_getN (v := .ref (lay 4 i3)) (j := 3) (host := "WhoseHand") C hw hn_4 rfl (by decide) (by decide) rfl q412 dX10_mean_42 ?_
        refine x_getN (v := .int (sF σ1 4 i3 5)) (j := 5) (host := "WhoseHand") C hw hm_8 rfl (by decide) (by decide) rfl q252 dX10_mean_45 ?_
        refine lv_aload_n hx hb dX10_mean_48 rfl (lv_at hl 0 rfl) ?_
        have hm_9 : (4, i3) ∈ L := hw.2.2.2.1 8 i3 hn_4 3 (by decide) (by decide) rfl
        refine x_getN (v := .ref (lay 4 i3)) (j := 3) (host := "WhoseHand") C hw hn_4 rfl (by decide) (by decide) rfl q412 dX10_mean_49 ?_
        refine x_getN (v := .int (sF σ1 4 i3 4)) (j := 4) (host := "WhoseHand") C hw hm_9 rfl (by decide) (by decide) rfl q250 dX10_mean_52 ?_
        refine lv_idiv hx hb dX10_mean_55 hf.1 ?_
        replace hf := hf.2
        exact x_iret C hret hw hf dX10_mean_56
      · replace hf := hf.2 c7
        refine lv_aload_n hx hb dX10_mean_35 rfl (lv_at hl 1 rfl) ?_
        refine lv_iconst (v := 4) hx hb dX10_mean_36 (by decide) ?_
        refine x_runi hw (x_V (n := 1) (rest := []) C hw hm0 (by decide) (eX10_found hf hm0) q340 q342 q1 q44 q343 rfl rfl (by decide +kernel) ⟨Nat.le_of_ble_eq_true rfl, Nat.le_of_ble_eq_true rfl⟩ rfl hl.1 rfl (Nat.le_of_ble_eq_true rfl) dX10_mean_37) (fun r11 σ10 H locs hf hw => ?_)
        try dsimp only at hf
        exact x_iret C hret hw hf dX10_mean_40
    · replace hf := hf.2 c5
      refine lv_aload_n hx hb dX10_mean_19 rfl (lv_at hl 1 rfl) ?_
      refine lv_iconst (v := 1) hx hb dX10_mean_20 (by decide) ?_
      refine x_runi hw (x_V (n := 1) (rest := []) C hw hm0 (by decide) (eX10_found hf hm0) q340 q342 q1 q44 q343 rfl rfl (by decide +kernel) ⟨Nat.le_of_ble_eq_true rfl, Nat.le_of_ble_eq_true rfl⟩ rfl hl.1 rfl (Nat.le_of_ble_eq_true rfl) dX10_mean_21) (fun r13 σ12 H locs hf hw => ?_)
      try dsimp only at hf
      exact x_iret C hret hw hf dX10_mean_24
-- X10_sort
abbrev rmX10_sort : Room := { frames := 0, cells := 0, slots := 0, locals := 0 }
def fX10_sort (N : Nat) (σ : St) (a1 : Int32) (Q : Int32 → St → Prop) : Prop := ((a1 < 0 → Q (-1 : Int32) σ) ∧ (¬ a1 < 0 → ((a1 ≤ (1 : Int32) → ∀ σ5 : St, σ5 = setF σ 2 0 3 a1 → Q (sF σ 2 0 3) σ5) ∧ (¬ a1 ≤ (1 : Int32) → Q (-1 : Int32) σ))))
set_option maxHeartbeats 4000000 in
set_option maxRecDepth 100000 in
theorem eX10_sort {l : Launch} {E : EC} {lay : Nat → Nat → Nat} {L : List (Nat × Nat)} {A : Nat → Prop} {N : Nat} {σ : St} {a1 : Int32} {Q : Int32 → St → Prop} (hf : fX10_sort N σ a1 Q) (hm0 : (10, 0) ∈ L) : Met l yX10_sort (.code yX10_sort cX10_sort 3 (some .int) :: big) rmX10_sort (va_Pc [.ref (lay 10 0), .int a1] (Bp E lay L A σ)) (va_Qi Q (Bd E lay L A) A) 0 0 A := by
  refine x_met (by decide +kernel) (Nat.le_of_ble_eq_true rfl) ?_
  intro p e s m args below meth c ls C hret hw hl
  have hx := C.1
  have hb := C.2.1
  have hl : lv_has ls 3 [(0, .ref (lay 10 0)), (1, .int a1)] := hl
  unfold fX10_sort at hf
  refine lv_iload_n hx hb dX10_sort_0 rfl (lv_at hl 1 rfl) ?_
  refine lv_if_lt (tgt := 9) hx hb dX10_sort_1 (by decide) (fun c1 => ?_) (fun c1 => ?_)
  · replace hf := hf.1 c1
    refine lv_iconst (v := (-1)) hx hb dX10_sort_9 (by decide) ?_
    exact x_iret C hret hw hf dX10_sort_10
  · replace hf := hf.2 c1
    refine lv_iload_n hx hb dX10_sort_4 rfl (lv_at hl 1 rfl) ?_
    refine lv_iconst (v := 1) hx hb dX10_sort_5 (by decide) ?_
    refine lv_icmp_le (tgt := 11) hx hb dX10_sort_6 (by decide) (fun c2 => ?_) (fun c2 => ?_)
    · replace hf := hf.1 c2
      refine lv_aload_n hx hb dX10_sort_11 rfl (lv_at hl 0 rfl) ?_
      have hm_3 : (2, 0) ∈ L := hw.2.2.2.1 10 0 hm0 2 (by decide) (by decide) rfl
      refine x_get (v := .ref (lay 2 0)) (j := 2) C hw hm0 rfl (by decide) (by decide) rfl q291 dX10_sort_12 ?_
      refine x_getN (v := .int (sF σ 2 0 3)) (j := 3) (host := "WhoseHand") C hw hm_3 rfl (by decide) (by decide) rfl q83 dX10_sort_15 ?_
      refine lv_istore_n (lv' := [(2, .int (sF σ 2 0 3)), (0, .ref (lay 10 0)), (1, .int a1)]) hx hb dX10_sort_18 rfl hl (by decide) rfl (fun ls hl => ?_)
      refine lv_aload_n hx hb dX10_sort_19 rfl (lv_at hl 1 rfl) ?_
      have hm_4 : (2, 0) ∈ L := hw.2.2.2.1 10 0 hm0 2 (by decide) (by decide) rfl
      refine x_get (v := .ref (lay 2 0)) (j := 2) C hw hm0 rfl (by decide) (by decide) rfl q291 dX10_sort_20 ?_
      refine lv_iload_n hx hb dX10_sort_23 rfl (lv_at hl 2 rfl) ?_
      refine x_putIN (j := 3) (ty := .int) (host := "WhoseHand") C hw hm_4 rfl (by decide) (by decide) rfl rfl (by decide +kernel) rfl rfl q83 dX10_sort_24 (fun σ5 H locs eσ5 hw => ?_)
      replace hf := hf σ5 eσ5
      refine lv_iload_n hx hb dX10_sort_27 rfl (lv_at hl 0 rfl) ?_
      exact x_iret C hret hw hf dX10_sort_28
    · replace hf := hf.2 c2
      refine lv_iconst (v := (-1)) hx hb dX10_sort_9 (by decide) ?_
      exact x_iret C hret hw hf dX10_sort_10
-- X10_far
abbrev rmX10_far : Room := { frames := 3, cells := 0, slots := 0, locals := 67 }
def fX10_far_b39 (N : Nat) (a1 : Int32) (a2 : Int32) (Q : Int32 → St → Prop) (σ : St) : Prop := fX10_found N σ (1 : Int32) (fun (r11 : Int32) (σ10 : St) => Q r11 σ10)
set_option maxHeartbeats 4000000 in
set_option maxRecDepth 100000 in
theorem eX10_far_b39 {p : Program} {l : Launch} {e : Env} {s : State} {m : MethodId} {args : Array Value} {below : List Frame} {meth : Method} {c : Code} {E : EC} {lay : Nat → Nat → Nat} {L : List (Nat × Nat)} {A : Nat → Prop} (C : Cx p s m args c meth yX10_far.cls cX10_far 5 E A) (hret : meth.sig.returnType = some .int) {N : Nat} {a1 : Int32} {a2 : Int32} {Q : Int32 → St → Prop} (hm0 : (10, 0) ∈ L) (σ : St) (H : Heap) (locs : List Loc) (ls : Array Slot) (hf : fX10_far_b39 N a1 a2 Q σ) (hw : Wo E lay L A s σ H locs) (hl : lv_has ls 5 [(0, .ref (lay 10 0))]) : W p l e rmX10_far s m args below meth c H locs 0 0 (MQ below (va_Qi Q (Bd E lay L A) A) args s 0 0 A) (F0 m 39 ls []) := by
  have hx := C.1
  have hb := C.2.1
  unfold fX10_far_b39 at hf
  refine lv_aload_n hx hb dX10_far_39 rfl (lv_at hl 0 rfl) ?_
  refine lv_iconst (v := 1) hx hb dX10_far_40 (by decide) ?_
  refine x_runi hw (x_V (n := 1) (rest := []) C hw hm0 (by decide) (eX10_found hf hm0) q340 q342 q1 q44 q343 rfl rfl (by decide +kernel) ⟨Nat.le_of_ble_eq_true rfl, Nat.le_of_ble_eq_true rfl⟩ rfl hl.1 rfl (Nat.le_of_ble_eq_true rfl) dX10_far_41) (fun r11 σ10 H locs hf hw => ?_)
  try dsimp only at hf
  exact x_iret C hret hw hf dX10_far_44
def fX10_far (N : Nat) (σ : St) (a1 : Int32) (a2 : Int32) (Q : Int32 → St → Prop) : Prop := fX10_textAt N σ a1 (fun (r2 : Option Nat) (σ1 : St) => fX10_textAt N σ1 a2 (fun (r4 : Option Nat) (σ3 : St) => ((r2 = none → Q (-1 : Int32) σ3) ∧ (∀ i5, r2 = some i5 → ((r4 = none → Q (-1 : Int32) σ3) ∧ (∀ i7, r4 = some i7 → ((¬ (sF σ3 8 i5 5) = 0 → fX10_far_b39 N a1 a2 Q σ3) ∧ ((sF σ3 8 i5 5) = 0 → (((sF σ3 8 i7 5) = 0 → fX2_readRates N σ3 i5 0 (fun (σ16 : St) => fX2_readRates N σ16 i7 1 (fun (σ20 : St) => fX2_farness N σ20 0 1 (-1 : Int32) (fun (r25 : Int32) (σ24 : St) => Q r25 σ24)))) ∧ (¬ (sF σ3 8 i7 5) = 0 → fX10_far_b39 N a1 a2 Q σ3))))))))))
set_option maxHeartbeats 4000000 in
set_option maxRecDepth 100000 in
theorem eX10_far {l : Launch} {E : EC} {lay : Nat → Nat → Nat} {L : List (Nat × Nat)} {A : Nat → Prop} {N : Nat} {σ : St} {a1 : Int32} {a2 : Int32} {Q : Int32 → St → Prop} (hf : fX10_far N σ a1 a2 Q) (hm0 : (10, 0) ∈ L) : Met l yX10_far (.code yX10_far cX10_far 5 (some .int) :: big) rmX10_far (va_Pc [.ref (lay 10 0), .int a1, .int a2] (Bp E lay L A σ)) (va_Qi Q (Bd E lay L A) A) 0 0 A := by
  refine x_met (by decide +kernel) (Nat.le_of_ble_eq_true rfl) ?_
  intro p e s m args below meth c ls C hret hw hl
  have hx := C.1
  have hb := C.2.1
  have hl : lv_has ls 5 [(0, .ref (lay 10 0)), (1, .int a1), (2, .int a2)] := hl
  unfold fX10_far at hf
  refine lv_aload_n hx hb dX10_far_0 rfl (lv_at hl 0 rfl) ?_
  refine lv_iload_n hx hb dX10_far_1 rfl (lv_at hl 1 rfl) ?_
  refine x_runq hw (x_V (n := 1) (rest := []) C hw hm0 (by decide) (eX10_textAt hf hm0) q513 q515 q9 q44 q516 rfl rfl (by decide +kernel) ⟨Nat.le_of_ble_eq_true rfl, Nat.le_of_ble_eq_true rfl⟩ rfl hl.1 rfl (Nat.le_of_ble_eq_true rfl) dX10_far_2) (fun r2 σ1 H locs hf hOr2 hw => ?_)
  try dsimp only at hf
  refine x_astore_n (lv' := [(3, rf lay 8 r2), (0, .ref (lay 10 0)), (1, .int a1), (2, .int a2)]) hx hb dX10_far_5 rfl hl (by decide) rfl (fun ls hl => ?_)
  refine lv_aload_n hx hb dX10_far_6 rfl (lv_at hl 1 rfl) ?_
  refine lv_iload_n hx hb dX10_far_7 rfl (lv_at hl 3 rfl) ?_
  refine x_runq hw (x_V (n := 1) (rest := []) C hw hm0 (by decide) (eX10_textAt hf hm0) q513 q515 q9 q44 q516 rfl rfl (by decide +kernel) ⟨Nat.le_of_ble_eq_true rfl, Nat.le_of_ble_eq_true rfl⟩ rfl hl.1 rfl (Nat.le_of_ble_eq_true rfl) dX10_far_8) (fun r4 σ3 H locs hf hOr4 hw => ?_)
  try dsimp only at hf
  refine x_astore (lv' := [(4, rf lay 8 r4), (3, rf lay 8 r2), (0, .ref (lay 10 0)), (1, .int a1), (2, .int a2)]) hx hb dX10_far_11 hl (by decide) (by simp [rf_cat]) (fun ls hl => ?_)
  refine x_aload_n hx hb dX10_far_13 rfl (lv_at hl 1 rfl) ?_
  refine x_ifnull (r := r2) (tgt := 22) hx hb dX10_far_14 (by decide) (fun eni5 => ?_) (fun i5 eni5 => ?_)
  · replace hf := hf.1 eni5
    refine lv_iconst (v := (-1)) hx hb dX10_far_22 (by decide) ?_
    exact x_iret C hret hw hf dX10_far_23
  · replace hf := hf.2 i5 eni5
    have hn_6 := hOr2 i5 eni5
    rw [eni5] at hl
    try rw [eni5]
    have hl : lv_has ls 5 [(4, rf lay 8 r4), (3, .ref (lay 8 i5)), (0, .ref (lay 10 0)), (1, .int a1), (2, .int a2)] := hl
    refine x_aload hx hb dX10_far_17 (lv_at hl 0 rfl) ?_
    refine x_ifnonnull (r := r4) (tgt := 24) hx hb dX10_far_19 (by decide) (fun eni7 => ?_) (fun i7 eni7 => ?_)
    · replace hf := hf.1 eni7
      refine lv_iconst (v := (-1)) hx hb dX10_far_22 (by decide) ?_
      exact x_iret C hret hw hf dX10_far_23
    · replace hf := hf.2 i7 eni7
      have hn_8 := hOr4 i7 eni7
      rw [eni7] at hl
      try rw [eni7]
      have hl : lv_has ls 5 [(4, .ref (lay 8 i7)), (3, .ref (lay 8 i5)), (0, .ref (lay 10 0)), (1, .int a1), (2, .int a2)] := hl
      refine lv_aload_n hx hb dX10_far_24 rfl (lv_at hl 1 rfl) ?_
      refine x_getN (v := .int (sF σ3 8 i5 5)) (j := 5) (host := "WhoseHand") C hw hn_6 rfl (by decide) (by decide) rfl q420 dX10_far_25 ?_
      refine lv_if_ne (tgt := 39) hx hb dX10_far_28 (by decide) (fun c9 => ?_) (fun c9 => ?_)
      · replace hf := hf.1 c9
        exact eX10_far_b39 C hret hm0 σ3 _ _ _ hf hw (lv_sub hl [2] rfl)
      · replace hf := hf.2 c9
        refine lv_aload hx hb dX10_far_31 (lv_at hl 0 rfl) ?_
        refine x_getN (v := .int (sF σ3 8 i7 5)) (j := 5) (host := "WhoseHand") C hw hn_8 rfl (by decide) (by decide) rfl q420 dX10_far_33 ?_
        refine lv_if_eq (tgt := 45) hx hb dX10_far_36 (by decide) (fun c12 => ?_) (fun c12 => ?_)
        · replace hf := hf.1 c12
          refine lv_aload_n hx hb dX10_far_45 rfl (lv_at hl 2 rfl) ?_
          have hm_13 : (2, 0) ∈ L := hw.2.2.2.1 10 0 hm0 2 (by decide) (by decide) rfl
          refine x_get (v := .ref (lay 2 0)) (j := 2) C hw hm0 rfl (by decide) (by decide) rfl q291 dX10_far_46 ?_
          refine lv_aload_n hx hb dX10_far_49 rfl (lv_at hl 1 rfl) ?_
          have hm_14 : (7, i5) ∈ L := hw.2.2.2.1 8 i5 hn_6 4 (by decide) (by decide) rfl
          refine x_getN (v := .ref (lay 7 i5)) (j := 4) (host := "WhoseHand") C hw hn_6 rfl (by decide) (by decide) rfl q417 dX10_far_50 ?_
          refine lv_aload_n hx hb dX10_far_53 rfl (lv_at hl 2 rfl) ?_
          have hm_15 : (23, 0) ∈ L := hw.2.2.2.1 10 0 hm0 8 (by decide) (by decide) rfl
          refine x_get (v := .ref (lay 23 0)) (j := 8) C hw hm0 rfl (by decide) (by decide) rfl q297 dX10_far_54 ?_
          refine x_runv hw (x_V (n := 2) (rest := []) C hw hm_13 (by decide) (eX2_readRates hf hm_13 hm_14 hm_15) q654 q629 q630 q45 q631 rfl rfl (by decide +kernel) ⟨Nat.le_of_ble_eq_true rfl, Nat.le_of_ble_eq_true rfl⟩ rfl hl.1 rfl (Nat.le_of_ble_eq_true rfl) dX10_far_57) (fun σ16 H locs hf hw => ?_)
          try dsimp only at hf
          refine lv_aload_n hx hb dX10_far_60 rfl (lv_at hl 2 rfl) ?_
          have hm_17 : (2, 0) ∈ L := hw.2.2.2.1 10 0 hm0 2 (by decide) (by decide) rfl
          refine x_get (v := .ref (lay 2 0)) (j := 2) C hw hm0 rfl (by decide) (by decide) rfl q291 dX10_far_61 ?_
          refine lv_aload hx hb dX10_far_64 (lv_at hl 0 rfl) ?_
          have hm_18 : (7, i7) ∈ L := hw.2.2.2.1 8 i7 hn_8 4 (by decide) (by decide) rfl
          refine x_getN (v := .ref (lay 7 i7)) (j := 4) (host := "WhoseHand") C hw hn_8 rfl (by decide) (by decide) rfl q417 dX10_far_66 ?_
          refine lv_aload_n hx hb dX10_far_69 rfl (lv_at hl 2 rfl) ?_
          have hm_19 : (23, 1) ∈ L := hw.2.2.2.1 10 0 hm0 9 (by decide) (by decide) rfl
          refine x_get (v := .ref (lay 23 1)) (j := 9) C hw hm0 rfl (by decide) (by decide) rfl q298 dX10_far_70 ?_
          refine x_runv hw (x_V (n := 2) (rest := []) C hw hm_17 (by decide) (eX2_readRates hf hm_17 hm_18 hm_19) q654 q629 q630 q45 q631 rfl rfl (by decide +kernel) ⟨Nat.le_of_ble_eq_true rfl, Nat.le_of_ble_eq_true rfl⟩ rfl hl.1 rfl (Nat.le_of_ble_eq_true rfl) dX10_far_73) (fun σ20 H locs hf hw => ?_)
          try dsimp only at hf
          refine lv_aload_n hx hb dX10_far_76 rfl (lv_at hl 2 rfl) ?_
          have hm_21 : (2, 0) ∈ L := hw.2.2.2.1 10 0 hm0 2 (by decide) (by decide) rfl
          refine x_get (v := .ref (lay 2 0)) (j := 2) C hw hm0 rfl (by decide) (by decide) rfl q291 dX10_far_77 ?_
          refine lv_aload_n hx hb dX10_far_80 rfl (lv_at hl 2 rfl) ?_
          have hm_22 : (23, 0) ∈ L := hw.2.2.2.1 10 0 hm0 8 (by decide) (by decide) rfl
          refine x_get (v := .ref (lay 23 0)) (j := 8) C hw hm0 rfl (by decide) (by decide) rfl q297 dX10_far_81 ?_
          refine lv_aload_n hx hb dX10_far_84 rfl (lv_at hl 2 rfl) ?_
          have hm_23 : (23, 1) ∈ L := hw.2.2.2.1 10 0 hm0 9 (by decide) (by decide) rfl
          refine x_get (v := .ref (lay 23 1)) (j := 9) C hw hm0 rfl (by decide) (by decide) rfl q298 dX10_far_85 ?_
          refine lv_iconst (v := (-1)) hx hb dX10_far_88 (by decide) ?_
          refine x_runi hw (x_V (n := 3) (rest := []) C hw hm_21 (by decide) (eX2_farness hf hm_21 hm_22 hm_23) q655 q656 q657 q45 q658 rfl rfl (by decide +kernel) ⟨Nat.le_of_ble_eq_true rfl, Nat.le_of_ble_eq_true rfl⟩ rfl hl.1 rfl (Nat.le_of_ble_eq_true rfl) dX10_far_89) (fun r25 σ24 H locs hf hw => ?_)
          try dsimp only at hf
          exact x_iret C hret hw hf dX10_far_92
        · replace hf := hf.2 c12
          exact eX10_far_b39 C hret hm0 σ3 _ _ _ hf hw (lv_sub hl [2] rfl)
-- X10_readHandsFor
abbrev rmX10_readHandsFor : Room := { frames := 4, cells := 0, slots := 0, locals := 92 }
def fX10_readHandsFor (N : Nat) (σ : St) (a1 : Int32) (a2 : Nat) (Q : St → Prop) : Prop := fX1_readWithout N σ a1 (fun (σ4 : St) => fX2_readRates N σ4 a2 0 (fun (σ8 : St) => Q σ8))
set_option maxHeartbeats 4000000 in
set_option maxRecDepth 100000 in
theorem eX10_readHandsFor {l : Launch} {E : EC} {lay : Nat → Nat → Nat} {L : List (Nat × Nat)} {A : Nat → Prop} {N : Nat} {σ : St} {a1 : Int32} {a2 : Nat} {Q : St → Prop} (hf : fX10_readHandsFor N σ a1 a2 Q) (hm0 : (10, 0) ∈ L) (hm2 : (8, a2) ∈ L) : Met l yX10_readHandsFor (.code yX10_readHandsFor cX10_readHandsFor 3 (none) :: big) rmX10_readHandsFor (va_Pc [.ref (lay 10 0), .int a1, .ref (lay 8 a2)] (Bp E lay L A σ)) (va_Qv Q (Bd E lay L A) A) 0 0 A := by
  refine x_met (by decide +kernel) (Nat.le_of_ble_eq_true rfl) ?_
  intro p e s m args below meth c ls C hret hw hl
  have hx := C.1
  have hb := C.2.1
  have hl : lv_has ls 3 [(0, .ref (lay 10 0)), (1, .int a1), (2, .ref (lay 8 a2))] := hl
  unfold fX10_readHandsFor at hf
  refine lv_aload_n hx hb dX10_readHandsFor_0 rfl (lv_at hl 0 rfl) ?_
  have hm_1 : (1, 0) ∈ L := hw.2.2.2.1 10 0 hm0 3 (by decide) (by decide) rfl
  refine x_get (v := .ref (lay 1 0)) (j := 3) C hw hm0 rfl (by decide) (by decide) rfl q292 dX10_readHandsFor_1 ?_
  refine lv_iload_n hx hb dX10_readHandsFor_4 rfl (lv_at hl 1 rfl) ?_
  refine lv_aload_n hx hb dX10_readHandsFor_5 rfl (lv_at hl 0 rfl) ?_
  have hm_2 : (21, 0) ∈ L := hw.2.2.2.1 10 0 hm0 1 (by decide) (by decide) rfl
  refine x_get (v := .ref (lay 21 0)) (j := 1) C hw hm0 rfl (by decide) (by decide) rfl q290 dX10_readHandsFor_6 ?_
  refine lv_aload_n hx hb dX10_readHandsFor_9 rfl (lv_at hl 0 rfl) ?_
  have hm_3 : (2, 0) ∈ L := hw.2.2.2.1 10 0 hm0 2 (by decide) (by decide) rfl
  refine x_get (v := .ref (lay 2 0)) (j := 2) C hw hm0 rfl (by decide) (by decide) rfl q291 dX10_readHandsFor_10 ?_
  refine x_runv hw (x_V (n := 3) (rest := []) C hw hm_1 (by decide) (eX1_readWithout hf hm_1 hm_2 hm_3) q607 q608 q609 q46 q610 rfl rfl (by decide +kernel) ⟨Nat.le_of_ble_eq_true rfl, Nat.le_of_ble_eq_true rfl⟩ rfl hl.1 rfl (Nat.le_of_ble_eq_true rfl) dX10_readHandsFor_13) (fun σ4 H locs hf hw => ?_)
  try dsimp only at hf
  refine lv_aload_n hx hb dX10_readHandsFor_16 rfl (lv_at hl 0 rfl) ?_
  have hm_5 : (2, 0) ∈ L := hw.2.2.2.1 10 0 hm0 2 (by decide) (by decide) rfl
  refine x_get (v := .ref (lay 2 0)) (j := 2) C hw hm0 rfl (by decide) (by decide) rfl q291 dX10_readHandsFor_17 ?_
  refine lv_aload_n hx hb dX10_readHandsFor_20 rfl (lv_at hl 2 rfl) ?_
  have hm_6 : (7, a2) ∈ L := hw.2.2.2.1 8 a2 hm2 4 (by decide) (by decide) rfl
  refine x_getN (v := .ref (lay 7 a2)) (j := 4) (host := "WhoseHand") C hw hm2 rfl (by decide) (by decide) rfl q417 dX10_readHandsFor_21 ?_
  refine lv_aload_n hx hb dX10_readHandsFor_24 rfl (lv_at hl 0 rfl) ?_
  have hm_7 : (23, 0) ∈ L := hw.2.2.2.1 10 0 hm0 8 (by decide) (by decide) rfl
  refine x_get (v := .ref (lay 23 0)) (j := 8) C hw hm0 rfl (by decide) (by decide) rfl q297 dX10_readHandsFor_25 ?_
  refine x_runv hw (x_V (n := 2) (rest := []) C hw hm_5 (by decide) (eX2_readRates hf hm_5 hm_6 hm_7) q654 q629 q630 q45 q631 rfl rfl (by decide +kernel) ⟨Nat.le_of_ble_eq_true rfl, Nat.le_of_ble_eq_true rfl⟩ rfl hl.1 rfl (Nat.le_of_ble_eq_true rfl) dX10_readHandsFor_28) (fun σ8 H locs hf hw => ?_)
  try dsimp only at hf
  exact x_vret C hret hw hf dX10_readHandsFor_31
-- X10_from
abbrev rmX10_from : Room := { frames := 5, cells := 0, slots := 0, locals := 114 }
def fX10_from (N : Nat) (σ : St) (a1 : Int32) (a2 : Int32) (Q : Int32 → St → Prop) : Prop := fX10_textAt N σ a1 (fun (r2 : Option Nat) (σ1 : St) => ((r2 = none → Q (-1 : Int32) σ1) ∧ (∀ i3, r2 = some i3 → fX10_isWriter N σ1 a2 (fun (r6 : Int32) (σ5 : St) => ((¬ r6 = 0 → (((sF σ5 8 i3 5) = 0 → fX10_readHandsFor N σ5 a1 i3 (fun (σ9 : St) => fX1_has N σ9 a2 (fun (r12 : Int32) (σ11 : St) => ((¬ r12 = 0 → fX1_farnessOf N σ11 a2 0 (-1 : Int32) (fun (r18 : Int32) (σ17 : St) => Q r18 σ17)) ∧ (r12 = 0 → fX10_found N σ11 (4 : Int32) (fun (r20 : Int32) (σ19 : St) => Q r20 σ19)))))) ∧ (¬ (sF σ5 8 i3 5) = 0 → fX10_found N σ5 (1 : Int32) (fun (r22 : Int32) (σ21 : St) => Q r22 σ21)))) ∧ (r6 = 0 → Q (-1 : Int32) σ5))))))
set_option maxHeartbeats 4000000 in
set_option maxRecDepth 100000 in
theorem eX10_from {l : Launch} {E : EC} {lay : Nat → Nat → Nat} {L : List (Nat × Nat)} {A : Nat → Prop} {N : Nat} {σ : St} {a1 : Int32} {a2 : Int32} {Q : Int32 → St → Prop} (hf : fX10_from N σ a1 a2 Q) (hm0 : (10, 0) ∈ L) : Met l yX10_from (.code yX10_from cX10_from 4 (some .int) :: big) rmX10_from (va_Pc [.ref (lay 10 0), .int a1, .int a2] (Bp E lay L A σ)) (va_Qi Q (Bd E lay L A) A) 0 0 A := by
  refine x_met (by decide +kernel) (Nat.le_of_ble_eq_true rfl) ?_
  intro p e s m args below meth c ls C hret hw hl
  have hx := C.1
  have hb := C.2.1
  have hl : lv_has ls 4 [(0, .ref (lay 10 0)), (1, .int a1), (2, .int a2)] := hl
  unfold fX10_from at hf
  refine lv_aload_n hx hb dX10_from_0 rfl (lv_at hl 0 rfl) ?_
  refine lv_iload_n hx hb dX10_from_1 rfl (lv_at hl 1 rfl) ?_
  refine x_runq hw (x_V (n := 1) (rest := []) C hw hm0 (by decide) (eX10_textAt hf hm0) q513 q515 q9 q44 q516 rfl rfl (by decide +kernel) ⟨Nat.le_of_ble_eq_true rfl, Nat.le_of_ble_eq_true rfl⟩ rfl hl.1 rfl (Nat.le_of_ble_eq_true rfl) dX10_from_2) (fun r2 σ1 H locs hf hOr2 hw => ?_)
  try dsimp only at hf
  refine x_astore_n (lv' := [(3, rf lay 8 r2), (0, .ref (lay 10 0)), (1, .int a1), (2, .int a2)]) hx hb dX10_from_5 rfl hl (by decide) rfl (fun ls hl => ?_)
  refine x_aload_n hx hb dX10_from_6 rfl (lv_at hl 0 rfl) ?_
  refine x_ifnull (r := r2) (tgt := 17) hx hb dX10_from_7 (by decide) (fun eni3 => ?_) (fun i3 eni3 => ?_)
  · replace hf := hf.1 eni3
    refine lv_iconst (v := (-1)) hx hb dX10_from_17 (by decide) ?_
    exact x_iret C hret hw hf dX10_from_18
  · replace hf := hf.2 i3 eni3
    have hn_4 := hOr2 i3 eni3
    rw [eni3] at hl
    try rw [eni3]
    have hl : lv_has ls 4 [(3, .ref (lay 8 i3)), (0, .ref (lay 10 0)), (1, .int a1), (2, .int a2)] := hl
    refine lv_iload_n hx hb dX10_from_10 rfl (lv_at hl 3 rfl) ?_
    refine x_runi hw (x_S (n := 1) (rest := []) C hw (eX10_isWriter hf) q392 q393 q44 q394 rfl rfl (by decide +kernel) ⟨Nat.le_of_ble_eq_true rfl, Nat.le_of_ble_eq_true rfl⟩ rfl hl.1 rfl (Nat.le_of_ble_eq_true rfl) dX10_from_11) (fun r6 σ5 H locs hf hw => ?_)
    have hzr6 := hf.2
    replace hf := hf.1
    try dsimp only at hf
    refine lv_if_ne (tgt := 19) hx hb dX10_from_14 (by decide) (fun c7 => ?_) (fun c7 => ?_)
    · replace hf := hf.1 c7
      refine lv_aload_n hx hb dX10_from_19 rfl (lv_at hl 0 rfl) ?_
      refine x_getN (v := .int (sF σ5 8 i3 5)) (j := 5) (host := "WhoseHand") C hw hn_4 rfl (by decide) (by decide) rfl q420 dX10_from_20 ?_
      refine lv_if_eq (tgt := 32) hx hb dX10_from_23 (by decide) (fun c8 => ?_) (fun c8 => ?_)
      · replace hf := hf.1 c8
        refine lv_aload_n hx hb dX10_from_32 rfl (lv_at hl 1 rfl) ?_
        refine lv_iload_n hx hb dX10_from_33 rfl (lv_at hl 2 rfl) ?_
        refine lv_aload_n hx hb dX10_from_34 rfl (lv_at hl 0 rfl) ?_
        refine x_runv hw (x_V (n := 2) (rest := []) C hw hm0 (by decide) (eX10_readHandsFor hf hm0 hn_4) q666 q668 q10 q44 q669 rfl rfl (by decide +kernel) ⟨Nat.le_of_ble_eq_true rfl, Nat.le_of_ble_eq_true rfl⟩ rfl hl.1 rfl (Nat.le_of_ble_eq_true rfl) dX10_from_35) (fun σ9 H locs hf hw => ?_)
        try dsimp only at hf
        refine lv_aload_n hx hb dX10_from_38 rfl (lv_at hl 1 rfl) ?_
        have hm_10 : (1, 0) ∈ L := hw.2.2.2.1 10 0 hm0 3 (by decide) (by decide) rfl
        refine x_get (v := .ref (lay 1 0)) (j := 3) C hw hm0 rfl (by decide) (by decide) rfl q292 dX10_from_39 ?_
        refine lv_iload_n hx hb dX10_from_42 rfl (lv_at hl 3 rfl) ?_
        refine x_runi hw (x_V (n := 1) (rest := []) C hw hm_10 (by decide) (eX1_has hf hm_10) q633 q634 q635 q46 q636 rfl rfl (by decide +kernel) ⟨Nat.le_of_ble_eq_true rfl, Nat.le_of_ble_eq_true rfl⟩ rfl hl.1 rfl (Nat.le_of_ble_eq_true rfl) dX10_from_43) (fun r12 σ11 H locs hf hw => ?_)
        have hzr12 := hf.2
        replace hf := hf.1
        try dsimp only at hf
        refine lv_if_ne (tgt := 55) hx hb dX10_from_46 (by decide) (fun c13 => ?_) (fun c13 => ?_)
        · replace hf := hf.1 c13
          refine lv_aload_n hx hb dX10_from_55 rfl (lv_at hl 1 rfl) ?_
          have hm_14 : (1, 0) ∈ L := hw.2.2.2.1 10 0 hm0 3 (by decide) (by decide) rfl
          refine x_get (v := .ref (lay 1 0)) (j := 3) C hw hm0 rfl (by decide) (by decide) rfl q292 dX10_from_56 ?_
          refine lv_iload_n hx hb dX10_from_59 rfl (lv_at hl 3 rfl) ?_
          refine lv_aload_n hx hb dX10_from_60 rfl (lv_at hl 1 rfl) ?_
          have hm_15 : (23, 0) ∈ L := hw.2.2.2.1 10 0 hm0 8 (by decide) (by decide) rfl
          refine x_get (v := .ref (lay 23 0)) (j := 8) C hw hm0 rfl (by decide) (by decide) rfl q297 dX10_from_61 ?_
          refine lv_aload_n hx hb dX10_from_64 rfl (lv_at hl 1 rfl) ?_
          have hm_16 : (2, 0) ∈ L := hw.2.2.2.1 10 0 hm0 2 (by decide) (by decide) rfl
          refine x_get (v := .ref (lay 2 0)) (j := 2) C hw hm0 rfl (by decide) (by decide) rfl q291 dX10_from_65 ?_
          refine lv_iconst (v := (-1)) hx hb dX10_from_68 (by decide) ?_
          refine x_runi hw (x_V (n := 4) (rest := []) C hw hm_14 (by decide) (eX1_farnessOf hf hm_14 hm_15 hm_16) q670 q671 q672 q46 q673 rfl rfl (by decide +kernel) ⟨Nat.le_of_ble_eq_true rfl, Nat.le_of_ble_eq_true rfl⟩ rfl hl.1 rfl (Nat.le_of_ble_eq_true rfl) dX10_from_69) (fun r18 σ17 H locs hf hw => ?_)
          try dsimp only at hf
          exact x_iret C hret hw hf dX10_from_72
        · replace hf := hf.2 c13
          refine lv_aload_n hx hb dX10_from_49 rfl (lv_at hl 1 rfl) ?_
          refine lv_iconst (v := 4) hx hb dX10_from_50 (by decide) ?_
          refine x_runi hw (x_V (n := 1) (rest := []) C hw hm0 (by decide) (eX10_found hf hm0) q340 q342 q1 q44 q343 rfl rfl (by decide +kernel) ⟨Nat.le_of_ble_eq_true rfl, Nat.le_of_ble_eq_true rfl⟩ rfl hl.1 rfl (Nat.le_of_ble_eq_true rfl) dX10_from_51) (fun r20 σ19 H locs hf hw => ?_)
          try dsimp only at hf
          exact x_iret C hret hw hf dX10_from_54
      · replace hf := hf.2 c8
        refine lv_aload_n hx hb dX10_from_26 rfl (lv_at hl 1 rfl) ?_
        refine lv_iconst (v := 1) hx hb dX10_from_27 (by decide) ?_
        refine x_runi hw (x_V (n := 1) (rest := []) C hw hm0 (by decide) (eX10_found hf hm0) q340 q342 q1 q44 q343 rfl rfl (by decide +kernel) ⟨Nat.le_of_ble_eq_true rfl, Nat.le_of_ble_eq_true rfl⟩ rfl hl.1 rfl (Nat.le_of_ble_eq_true rfl) dX10_from_28) (fun r22 σ21 H locs hf hw => ?_)
        try dsimp only at hf
        exact x_iret C hret hw hf dX10_from_31
    · replace hf := hf.2 c7
      refine lv_iconst (v := (-1)) hx hb dX10_from_17 (by decide) ?_
      exact x_iret C hret hw hf dX10_from_18
-- X10_nearestWriter
abbrev rmX10_nearestWriter : Room := { frames := 5, cells := 0, slots := 0, locals := 114 }
def fX10_nearestWriter (N : Nat) (σ : St) (a1 : Int32) (a2 : Nat) (Q : Int32 → St → Prop) : Prop := fX10_readHandsFor N σ a1 a2 (fun (σ1 : St) => fX1_nearestTo N σ1 0 (-1 : Int32) (fun (r6 : Int32) (σ5 : St) => Q r6 σ5))
set_option maxHeartbeats 4000000 in
set_option maxRecDepth 100000 in
theorem eX10_nearestWriter {l : Launch} {E : EC} {lay : Nat → Nat → Nat} {L : List (Nat × Nat)} {A : Nat → Prop} {N : Nat} {σ : St} {a1 : Int32} {a2 : Nat} {Q : Int32 → St → Prop} (hf : fX10_nearestWriter N σ a1 a2 Q) (hm0 : (10, 0) ∈ L) (hm2 : (8, a2) ∈ L) : Met l yX10_nearestWriter (.code yX10_nearestWriter cX10_nearestWriter 3 (some .int) :: big) rmX10_nearestWriter (va_Pc [.ref (lay 10 0), .int a1, .ref (lay 8 a2)] (Bp E lay L A σ)) (va_Qi Q (Bd E lay L A) A) 0 0 A := by
  refine x_met (by decide +kernel) (Nat.le_of_ble_eq_true rfl) ?_
  intro p e s m args below meth c ls C hret hw hl
  have hx := C.1
  have hb := C.2.1
  have hl : lv_has ls 3 [(0, .ref (lay 10 0)), (1, .int a1), (2, .ref (lay 8 a2))] := hl
  unfold fX10_nearestWriter at hf
  refine lv_aload_n hx hb dX10_nearestWriter_0 rfl (lv_at hl 0 rfl) ?_
  refine lv_iload_n hx hb dX10_nearestWriter_1 rfl (lv_at hl 1 rfl) ?_
  refine lv_aload_n hx hb dX10_nearestWriter_2 rfl (lv_at hl 2 rfl) ?_
  refine x_runv hw (x_V (n := 2) (rest := []) C hw hm0 (by decide) (eX10_readHandsFor hf hm0 hm2) q666 q668 q10 q44 q669 rfl rfl (by decide +kernel) ⟨Nat.le_of_ble_eq_true rfl, Nat.le_of_ble_eq_true rfl⟩ rfl hl.1 rfl (Nat.le_of_ble_eq_true rfl) dX10_nearestWriter_3) (fun σ1 H locs hf hw => ?_)
  try dsimp only at hf
  refine lv_aload_n hx hb dX10_nearestWriter_6 rfl (lv_at hl 0 rfl) ?_
  have hm_2 : (1, 0) ∈ L := hw.2.2.2.1 10 0 hm0 3 (by decide) (by decide) rfl
  refine x_get (v := .ref (lay 1 0)) (j := 3) C hw hm0 rfl (by decide) (by decide) rfl q292 dX10_nearestWriter_7 ?_
  refine lv_aload_n hx hb dX10_nearestWriter_10 rfl (lv_at hl 0 rfl) ?_
  have hm_3 : (23, 0) ∈ L := hw.2.2.2.1 10 0 hm0 8 (by decide) (by decide) rfl
  refine x_get (v := .ref (lay 23 0)) (j := 8) C hw hm0 rfl (by decide) (by decide) rfl q297 dX10_nearestWriter_11 ?_
  refine lv_aload_n hx hb dX10_nearestWriter_14 rfl (lv_at hl 0 rfl) ?_
  have hm_4 : (2, 0) ∈ L := hw.2.2.2.1 10 0 hm0 2 (by decide) (by decide) rfl
  refine x_get (v := .ref (lay 2 0)) (j := 2) C hw hm0 rfl (by decide) (by decide) rfl q291 dX10_nearestWriter_15 ?_
  refine lv_iconst (v := (-1)) hx hb dX10_nearestWriter_18 (by decide) ?_
  refine x_runi hw (x_V (n := 3) (rest := []) C hw hm_2 (by decide) (eX1_nearestTo hf hm_2 hm_3 hm_4) q683 q684 q685 q46 q686 rfl rfl (by decide +kernel) ⟨Nat.le_of_ble_eq_true rfl, Nat.le_of_ble_eq_true rfl⟩ rfl hl.1 rfl (Nat.le_of_ble_eq_true rfl) dX10_nearestWriter_19) (fun r6 σ5 H locs hf hw => ?_)
  try dsimp only at hf
  exact x_iret C hret hw hf dX10_nearestWriter_22
-- X10_nearest
abbrev rmX10_nearest : Room := { frames := 6, cells := 0, slots := 0, locals := 136 }
def fX10_nearest (N : Nat) (σ : St) (a1 : Int32) (Q : Int32 → St → Prop) : Prop := fX10_textAt N σ a1 (fun (r2 : Option Nat) (σ1 : St) => ((r2 = none → Q (-1 : Int32) σ1) ∧ (∀ i3, r2 = some i3 → (((sF σ1 8 i3 5) = 0 → fX10_nearestWriter N σ1 a1 i3 (fun (r7 : Int32) (σ6 : St) => Q r7 σ6)) ∧ (¬ (sF σ1 8 i3 5) = 0 → fX10_found N σ1 (1 : Int32) (fun (r9 : Int32) (σ8 : St) => Q r9 σ8))))))
set_option maxHeartbeats 4000000 in
set_option maxRecDepth 100000 in
theorem eX10_nearest {l : Launch} {E : EC} {lay : Nat → Nat → Nat} {L : List (Nat × Nat)} {A : Nat → Prop} {N : Nat} {σ : St} {a1 : Int32} {Q : Int32 → St → Prop} (hf : fX10_nearest N σ a1 Q) (hm0 : (10, 0) ∈ L) : Met l yX10_nearest (.code yX10_nearest cX10_nearest 3 (some .int) :: big) rmX10_nearest (va_Pc [.ref (lay 10 0), .int a1] (Bp E lay L A σ)) (va_Qi Q (Bd E lay L A) A) 0 0 A := by
  refine x_met (by decide +kernel) (Nat.le_of_ble_eq_true rfl) ?_
  intro p e s m args below meth c ls C hret hw hl
  have hx := C.1
  have hb := C.2.1
  have hl : lv_has ls 3 [(0, .ref (lay 10 0)), (1, .int a1)] := hl
  unfold fX10_nearest at hf
  refine lv_aload_n hx hb dX10_nearest_0 rfl (lv_at hl 0 rfl) ?_
  refine lv_iload_n hx hb dX10_nearest_1 rfl (lv_at hl 1 rfl) ?_
  refine x_runq hw (x_V (n := 1) (rest := []) C hw hm0 (by decide) (eX10_textAt hf hm0) q513 q515 q9 q44 q516 rfl rfl (by decide +kernel) ⟨Nat.le_of_ble_eq_true rfl, Nat.le_of_ble_eq_true rfl⟩ rfl hl.1 rfl (Nat.le_of_ble_eq_true rfl) dX10_nearest_2) (fun r2 σ1 H locs hf hOr2 hw => ?_)
  try dsimp only at hf
  refine x_astore_n (lv' := [(2, rf lay 8 r2), (0, .ref (lay 10 0)), (1, .int a1)]) hx hb dX10_nearest_5 rfl hl (by decide) rfl (fun ls hl => ?_)
  refine x_aload_n hx hb dX10_nearest_6 rfl (lv_at hl 0 rfl) ?_
  refine x_ifnonnull (r := r2) (tgt := 12) hx hb dX10_nearest_7 (by decide) (fun eni3 => ?_) (fun i3 eni3 => ?_)
  · replace hf := hf.1 eni3
    refine lv_iconst (v := (-1)) hx hb dX10_nearest_10 (by decide) ?_
    exact x_iret C hret hw hf dX10_nearest_11
  · replace hf := hf.2 i3 eni3
    have hn_4 := hOr2 i3 eni3
    rw [eni3] at hl
    try rw [eni3]
    have hl : lv_has ls 3 [(2, .ref (lay 8 i3)), (0, .ref (lay 10 0)), (1, .int a1)] := hl
    refine lv_aload_n hx hb dX10_nearest_12 rfl (lv_at hl 0 rfl) ?_
    refine x_getN (v := .int (sF σ1 8 i3 5)) (j := 5) (host := "WhoseHand") C hw hn_4 rfl (by decide) (by decide) rfl q420 dX10_nearest_13 ?_
    refine lv_if_eq (tgt := 25) hx hb dX10_nearest_16 (by decide) (fun c5 => ?_) (fun c5 => ?_)
    · replace hf := hf.1 c5
      refine lv_aload_n hx hb dX10_nearest_25 rfl (lv_at hl 1 rfl) ?_
      refine lv_iload_n hx hb dX10_nearest_26 rfl (lv_at hl 2 rfl) ?_
      refine lv_aload_n hx hb dX10_nearest_27 rfl (lv_at hl 0 rfl) ?_
      refine x_runi hw (x_V (n := 2) (rest := []) C hw hm0 (by decide) (eX10_nearestWriter hf hm0 hn_4) q679 q681 q11 q44 q682 rfl rfl (by decide +kernel) ⟨Nat.le_of_ble_eq_true rfl, Nat.le_of_ble_eq_true rfl⟩ rfl hl.1 rfl (Nat.le_of_ble_eq_true rfl) dX10_nearest_28) (fun r7 σ6 H locs hf hw => ?_)
      try dsimp only at hf
      exact x_iret C hret hw hf dX10_nearest_31
    · replace hf := hf.2 c5
      refine lv_aload_n hx hb dX10_nearest_19 rfl (lv_at hl 1 rfl) ?_
      refine lv_iconst (v := 1) hx hb dX10_nearest_20 (by decide) ?_
      refine x_runi hw (x_V (n := 1) (rest := []) C hw hm0 (by decide) (eX10_found hf hm0) q340 q342 q1 q44 q343 rfl rfl (by decide +kernel) ⟨Nat.le_of_ble_eq_true rfl, Nat.le_of_ble_eq_true rfl⟩ rfl hl.1 rfl (Nat.le_of_ble_eq_true rfl) dX10_nearest_21) (fun r9 σ8 H locs hf hw => ?_)
      try dsimp only at hf
      exact x_iret C hret hw hf dX10_nearest_24
-- X10_place
abbrev rmX10_place : Room := { frames := 5, cells := 0, slots := 0, locals := 114 }
def fX10_place (N : Nat) (σ : St) (a1 : Int32) (a2 : Int32) (Q : Int32 → St → Prop) : Prop := fX10_textAt N σ a1 (fun (r2 : Option Nat) (σ1 : St) => ((r2 = none → Q (-1 : Int32) σ1) ∧ (∀ i3, r2 = some i3 → fX10_isWriter N σ1 a2 (fun (r6 : Int32) (σ5 : St) => ((¬ r6 = 0 → (((sF σ5 8 i3 5) = 0 → fX10_readHandsFor N σ5 a1 i3 (fun (σ9 : St) => fX1_has N σ9 a2 (fun (r12 : Int32) (σ11 : St) => ((¬ r12 = 0 → fX1_placeOf N σ11 a2 0 (fun (r18 : Int32) (σ17 : St) => Q r18 σ17)) ∧ (r12 = 0 → fX10_found N σ11 (4 : Int32) (fun (r20 : Int32) (σ19 : St) => Q r20 σ19)))))) ∧ (¬ (sF σ5 8 i3 5) = 0 → fX10_found N σ5 (1 : Int32) (fun (r22 : Int32) (σ21 : St) => Q r22 σ21)))) ∧ (r6 = 0 → Q (-1 : Int32) σ5))))))
set_option maxHeartbeats 4000000 in
set_option maxRecDepth 100000 in
theorem eX10_place {l : Launch} {E : EC} {lay : Nat → Nat → Nat} {L : List (Nat × Nat)} {A : Nat → Prop} {N : Nat} {σ : St} {a1 : Int32} {a2 : Int32} {Q : Int32 → St → Prop} (hf : fX10_place N σ a1 a2 Q) (hm0 : (10, 0) ∈ L) : Met l yX10_place (.code yX10_place cX10_place 4 (some .int) :: big) rmX10_place (va_Pc [.ref (lay 10 0), .int a1, .int a2] (Bp E lay L A σ)) (va_Qi Q (Bd E lay L A) A) 0 0 A := by
  refine x_met (by decide +kernel) (Nat.le_of_ble_eq_true rfl) ?_
  intro p e s m args below meth c ls C hret hw hl
  have hx := C.1
  have hb := C.2.1
  have hl : lv_has ls 4 [(0, .ref (lay 10 0)), (1, .int a1), (2, .int a2)] := hl
  unfold fX10_place at hf
  refine lv_aload_n hx hb dX10_place_0 rfl (lv_at hl 0 rfl) ?_
  refine lv_iload_n hx hb dX10_place_1 rfl (lv_at hl 1 rfl) ?_
  refine x_runq hw (x_V (n := 1) (rest := []) C hw hm0 (by decide) (eX10_textAt hf hm0) q513 q515 q9 q44 q516 rfl rfl (by decide +kernel) ⟨Nat.le_of_ble_eq_true rfl, Nat.le_of_ble_eq_true rfl⟩ rfl hl.1 rfl (Nat.le_of_ble_eq_true rfl) dX10_place_2) (fun r2 σ1 H locs hf hOr2 hw => ?_)
  try dsimp only at hf
  refine x_astore_n (lv' := [(3, rf lay 8 r2), (0, .ref (lay 10 0)), (1, .int a1), (2, .int a2)]) hx hb dX10_place_5 rfl hl (by decide) rfl (fun ls hl => ?_)
  refine x_aload_n hx hb dX10_place_6 rfl (lv_at hl 0 rfl) ?_
  refine x_ifnull (r := r2) (tgt := 17) hx hb dX10_place_7 (by decide) (fun eni3 => ?_) (fun i3 eni3 => ?_)
  · replace hf := hf.1 eni3
    refine lv_iconst (v := (-1)) hx hb dX10_place_17 (by decide) ?_
    exact x_iret C hret hw hf dX10_place_18
  · replace hf := hf.2 i3 eni3
    have hn_4 := hOr2 i3 eni3
    rw [eni3] at hl
    try rw [eni3]
    have hl : lv_has ls 4 [(3, .ref (lay 8 i3)), (0, .ref (lay 10 0)), (1, .int a1), (2, .int a2)] := hl
    refine lv_iload_n hx hb dX10_place_10 rfl (lv_at hl 3 rfl) ?_
    refine x_runi hw (x_S (n := 1) (rest := []) C hw (eX10_isWriter hf) q392 q393 q44 q394 rfl rfl (by decide +kernel) ⟨Nat.le_of_ble_eq_true rfl, Nat.le_of_ble_eq_true rfl⟩ rfl hl.1 rfl (Nat.le_of_ble_eq_true rfl) dX10_place_11) (fun r6 σ5 H locs hf hw => ?_)
    have hzr6 := hf.2
    replace hf := hf.1
    try dsimp only at hf
    refine lv_if_ne (tgt := 19) hx hb dX10_place_14 (by decide) (fun c7 => ?_) (fun c7 => ?_)
    · replace hf := hf.1 c7
      refine lv_aload_n hx hb dX10_place_19 rfl (lv_at hl 0 rfl) ?_
      refine x_getN (v := .int (sF σ5 8 i3 5)) (j := 5) (host := "WhoseHand") C hw hn_4 rfl (by decide) (by decide) rfl q420 dX10_place_20 ?_
      refine lv_if_eq (tgt := 32) hx hb dX10_place_23 (by decide) (fun c8 => ?_) (fun c8 => ?_)
      · replace hf := hf.1 c8
        refine lv_aload_n hx hb dX10_place_32 rfl (lv_at hl 1 rfl) ?_
        refine lv_iload_n hx hb dX10_place_33 rfl (lv_at hl 2 rfl) ?_
        refine lv_aload_n hx hb dX10_place_34 rfl (lv_at hl 0 rfl) ?_
        refine x_runv hw (x_V (n := 2) (rest := []) C hw hm0 (by decide) (eX10_readHandsFor hf hm0 hn_4) q666 q668 q10 q44 q669 rfl rfl (by decide +kernel) ⟨Nat.le_of_ble_eq_true rfl, Nat.le_of_ble_eq_true rfl⟩ rfl hl.1 rfl (Nat.le_of_ble_eq_true rfl) dX10_place_35) (fun σ9 H locs hf hw => ?_)
        try dsimp only at hf
        refine lv_aload_n hx hb dX10_place_38 rfl (lv_at hl 1 rfl) ?_
        have hm_10 : (1, 0) ∈ L := hw.2.2.2.1 10 0 hm0 3 (by decide) (by decide) rfl
        refine x_get (v := .ref (lay 1 0)) (j := 3) C hw hm0 rfl (by decide) (by decide) rfl q292 dX10_place_39 ?_
        refine lv_iload_n hx hb dX10_place_42 rfl (lv_at hl 3 rfl) ?_
        refine x_runi hw (x_V (n := 1) (rest := []) C hw hm_10 (by decide) (eX1_has hf hm_10) q633 q634 q635 q46 q636 rfl rfl (by decide +kernel) ⟨Nat.le_of_ble_eq_true rfl, Nat.le_of_ble_eq_true rfl⟩ rfl hl.1 rfl (Nat.le_of_ble_eq_true rfl) dX10_place_43) (fun r12 σ11 H locs hf hw => ?_)
        have hzr12 := hf.2
        replace hf := hf.1
        try dsimp only at hf
        refine lv_if_ne (tgt := 55) hx hb dX10_place_46 (by decide) (fun c13 => ?_) (fun c13 => ?_)
        · replace hf := hf.1 c13
          refine lv_aload_n hx hb dX10_place_55 rfl (lv_at hl 1 rfl) ?_
          have hm_14 : (1, 0) ∈ L := hw.2.2.2.1 10 0 hm0 3 (by decide) (by decide) rfl
          refine x_get (v := .ref (lay 1 0)) (j := 3) C hw hm0 rfl (by decide) (by decide) rfl q292 dX10_place_56 ?_
          refine lv_iload_n hx hb dX10_place_59 rfl (lv_at hl 3 rfl) ?_
          refine lv_aload_n hx hb dX10_place_60 rfl (lv_at hl 1 rfl) ?_
          have hm_15 : (23, 0) ∈ L := hw.2.2.2.1 10 0 hm0 8 (by decide) (by decide) rfl
          refine x_get (v := .ref (lay 23 0)) (j := 8) C hw hm0 rfl (by decide) (by decide) rfl q297 dX10_place_61 ?_
          refine lv_aload_n hx hb dX10_place_64 rfl (lv_at hl 1 rfl) ?_
          have hm_16 : (2, 0) ∈ L := hw.2.2.2.1 10 0 hm0 2 (by decide) (by decide) rfl
          refine x_get (v := .ref (lay 2 0)) (j := 2) C hw hm0 rfl (by decide) (by decide) rfl q291 dX10_place_65 ?_
          refine x_runi hw (x_V (n := 3) (rest := []) C hw hm_14 (by decide) (eX1_placeOf hf hm_14 hm_15 hm_16) q692 q693 q694 q46 q695 rfl rfl (by decide +kernel) ⟨Nat.le_of_ble_eq_true rfl, Nat.le_of_ble_eq_true rfl⟩ rfl hl.1 rfl (Nat.le_of_ble_eq_true rfl) dX10_place_68) (fun r18 σ17 H locs hf hw => ?_)
          try dsimp only at hf
          exact x_iret C hret hw hf dX10_place_71
        · replace hf := hf.2 c13
          refine lv_aload_n hx hb dX10_place_49 rfl (lv_at hl 1 rfl) ?_
          refine lv_iconst (v := 4) hx hb dX10_place_50 (by decide) ?_
          refine x_runi hw (x_V (n := 1) (rest := []) C hw hm0 (by decide) (eX10_found hf hm0) q340 q342 q1 q44 q343 rfl rfl (by decide +kernel) ⟨Nat.le_of_ble_eq_true rfl, Nat.le_of_ble_eq_true rfl⟩ rfl hl.1 rfl (Nat.le_of_ble_eq_true rfl) dX10_place_51) (fun r20 σ19 H locs hf hw => ?_)
          try dsimp only at hf
          exact x_iret C hret hw hf dX10_place_54
      · replace hf := hf.2 c8
        refine lv_aload_n hx hb dX10_place_26 rfl (lv_at hl 1 rfl) ?_
        refine lv_iconst (v := 1) hx hb dX10_place_27 (by decide) ?_
        refine x_runi hw (x_V (n := 1) (rest := []) C hw hm0 (by decide) (eX10_found hf hm0) q340 q342 q1 q44 q343 rfl rfl (by decide +kernel) ⟨Nat.le_of_ble_eq_true rfl, Nat.le_of_ble_eq_true rfl⟩ rfl hl.1 rfl (Nat.le_of_ble_eq_true rfl) dX10_place_28) (fun r22 σ21 H locs hf hw => ?_)
        try dsimp only at hf
        exact x_iret C hret hw hf dX10_place_31
    · replace hf := hf.2 c7
      refine lv_iconst (v := (-1)) hx hb dX10_place_17 (by decide) ?_
      exact x_iret C hret hw hf dX10_place_18
-- X10_outcome
abbrev rmX10_outcome : Room := { frames := 0, cells := 0, slots := 0, locals := 0 }
def fX10_outcome (N : Nat) (σ : St) (a0 : Int32) (a1 : Int32) (Q : Int32 → St → Prop) : Prop := ((¬ a0 = (-9 : Int32) → ((¬ a0 = a1 → Q (1 : Int32) σ) ∧ (a0 = a1 → Q (0 : Int32) σ))) ∧ (a0 = (-9 : Int32) → Q (2 : Int32) σ))
set_option maxHeartbeats 4000000 in
set_option maxRecDepth 100000 in
theorem eX10_outcome {l : Launch} {E : EC} {lay : Nat → Nat → Nat} {L : List (Nat × Nat)} {A : Nat → Prop} {N : Nat} {σ : St} {a0 : Int32} {a1 : Int32} {Q : Int32 → St → Prop} (hf : fX10_outcome N σ a0 a1 Q) : Met l yX10_outcome (.code yX10_outcome cX10_outcome 2 (some .int) :: big) rmX10_outcome (va_Pc [.int a0, .int a1] (Bp E lay L A σ)) (va_Qi Q (Bd E lay L A) A) 0 0 A := by
  refine x_met (by decide +kernel) (Nat.le_of_ble_eq_true rfl) ?_
  intro p e s m args below meth c ls C hret hw hl
  have hx := C.1
  have hb := C.2.1
  have hl : lv_has ls 2 [(0, .int a0), (1, .int a1)] := hl
  unfold fX10_outcome at hf
  refine lv_iload_n hx hb dX10_outcome_0 rfl (lv_at hl 0 rfl) ?_
  refine lv_bipush (v := (-9)) hx hb dX10_outcome_1 (by decide) ?_
  refine lv_icmp_ne (tgt := 8) hx hb dX10_outcome_3 (by decide) (fun c1 => ?_) (fun c1 => ?_)
  · replace hf := hf.1 c1
    refine lv_iload_n hx hb dX10_outcome_8 rfl (lv_at hl 0 rfl) ?_
    refine lv_iload_n hx hb dX10_outcome_9 rfl (lv_at hl 1 rfl) ?_
    refine lv_icmp_ne (tgt := 17) hx hb dX10_outcome_10 (by decide) (fun c2 => ?_) (fun c2 => ?_)
    · replace hf := hf.1 c2
      refine lv_iconst (v := 1) hx hb dX10_outcome_17 (by decide) ?_
      exact x_iret C hret hw hf dX10_outcome_18
    · replace hf := hf.2 c2
      refine lv_iconst (v := 0) hx hb dX10_outcome_13 (by decide) ?_
      refine lv_goto (tgt := 18) hx hb dX10_outcome_14 (by decide) ?_
      exact x_iret C hret hw hf dX10_outcome_18
  · replace hf := hf.2 c1
    refine lv_iconst (v := 2) hx hb dX10_outcome_6 (by decide) ?_
    exact x_iret C hret hw hf dX10_outcome_7
-- X10_trial
abbrev rmX10_trial : Room := { frames := 6, cells := 0, slots := 0, locals := 136 }
def fX10_trial_b70_15 (N : Nat) (a1 : Int32) (Q : Int32 → St → Prop) (Kh : St → Int32 → Int32 → Prop) (Kx76 : St → Int32 → Prop) (σ : St) (v2 : Int32) (v3 : Int32) : Prop := Kh σ v2 (v3 + (1 : Int32))
def fX10_trial_l15 (N : Nat) (a1 : Int32) (Q : Int32 → St → Prop) (Kx76 : St → Int32 → Prop) : Nat → St → Int32 → Int32 → Prop
  | 0, _, _, _ => False
  | n + 1, σ, v2, v3 => (((14 : Int32) ≤ v3 → Kx76 σ v2) ∧ (¬ (14 : Int32) ≤ v3 → (vp_in v3 14 ∧ (((sR σ 21 0 (v3).toNatClampNeg) = none → fX10_trial_b70_15 N a1 Q (fun (σ : St) (w2 : Int32) (w3 : Int32) => fX10_trial_l15 N a1 Q Kx76 n σ w2 w3) Kx76 σ v2 v3) ∧ (∀ i7, (sR σ 21 0 (v3).toNatClampNeg) = some i7 → fX8_isInHand N σ i7 (fun (r10 : Int32) (σ9 : St) => ((¬ r10 = 0 → fX10_nearestWriter N σ9 v3 i7 (fun (r13 : Int32) (σ12 : St) => fX10_outcome N σ12 r13 (sF σ12 8 i7 1) (fun (r15 : Int32) (σ14 : St) => ((¬ r15 = a1 → fX10_trial_b70_15 N a1 Q (fun (σ : St) (w2 : Int32) (w3 : Int32) => fX10_trial_l15 N a1 Q Kx76 n σ w2 w3) Kx76 σ14 v2 v3) ∧ (r15 = a1 → fX10_trial_b70_15 N a1 Q (fun (σ : St) (w2 : Int32) (w3 : Int32) => fX10_trial_l15 N a1 Q Kx76 n σ w2 w3) Kx76 σ14 (v2 + (1 : Int32)) v3))))) ∧ (r10 = 0 → fX10_trial_b70_15 N a1 Q (fun (σ : St) (w2 : Int32) (w3 : Int32) => fX10_trial_l15 N a1 Q Kx76 n σ w2 w3) Kx76 σ9 v2 v3))))))))
set_option maxHeartbeats 4000000 in
set_option maxRecDepth 100000 in
theorem eX10_trial_b70_15 {p : Program} {l : Launch} {e : Env} {s : State} {m : MethodId} {args : Array Value} {below : List Frame} {meth : Method} {c : Code} {E : EC} {lay : Nat → Nat → Nat} {L : List (Nat × Nat)} {A : Nat → Prop} (C : Cx p s m args c meth yX10_trial.cls cX10_trial 5 E A) (hret : meth.sig.returnType = some .int) {N : Nat} {a1 : Int32} {Q : Int32 → St → Prop} {Kh : St → Int32 → Int32 → Prop} {Kx76 : St → Int32 → Prop} (hm0 : (10, 0) ∈ L) (hKh : ∀ (σ : St) (w2 : Int32) (w3 : Int32) (H : Heap) (locs : List Loc) (ls : Array Slot), Kh σ w2 w3 → Wo E lay L A s σ H locs → lv_has ls 5 [(0, .ref (lay 10 0)), (1, .int a1), (2, .int w2), (3, .int w3)] → W p l e rmX10_trial s m args below meth c H locs 0 0 (MQ below (va_Qi Q (Bd E lay L A) A) args s 0 0 A) (F0 m 15 ls [])) (hK76 : ∀ (σ : St) (w2 : Int32) (H : Heap) (locs : List Loc) (ls : Array Slot), Kx76 σ w2 → Wo E lay L A s σ H locs → lv_has ls 5 [(2, .int w2)] → W p l e rmX10_trial s m args below meth c H locs 0 0 (MQ below (va_Qi Q (Bd E lay L A) A) args s 0 0 A) (F0 m 76 ls [])) (σ : St) (v2 : Int32) (v3 : Int32) (H : Heap) (locs : List Loc) (ls : Array Slot) (hf : fX10_trial_b70_15 N a1 Q Kh Kx76 σ v2 v3) (hw : Wo E lay L A s σ H locs) (hl : lv_has ls 5 [(0, .ref (lay 10 0)), (1, .int a1), (2, .int v2), (3, .int v3)]) : W p l e rmX10_trial s m args below meth c H locs 0 0 (MQ below (va_Qi Q (Bd E lay L A) A) args s 0 0 A) (F0 m 70 ls []) := by
  have hx := C.1
  have hb := C.2.1
  unfold fX10_trial_b70_15 at hf
  refine lv_iinc (v := (v3 + (1 : Int32))) (lv' := [(3, .int (v3 + (1 : Int32))), (0, .ref (lay 10 0)), (1, .int a1), (2, .int v2)]) hx hb dX10_trial_70 hl (k := 3) rfl (by rfl) (by decide) rfl (fun ls hl => ?_)
  refine lv_goto (tgt := 15) hx hb dX10_trial_73 (by decide) ?_
  exact hKh σ v2 (v3 + (1 : Int32)) _ _ _ hf hw (lv_sub hl [1, 2, 3, 0] rfl)
set_option maxHeartbeats 4000000 in
set_option maxRecDepth 100000 in
theorem eX10_trial_l15 {p : Program} {l : Launch} {e : Env} {s : State} {m : MethodId} {args : Array Value} {below : List Frame} {meth : Method} {c : Code} {E : EC} {lay : Nat → Nat → Nat} {L : List (Nat × Nat)} {A : Nat → Prop} (C : Cx p s m args c meth yX10_trial.cls cX10_trial 5 E A) (hret : meth.sig.returnType = some .int) {N : Nat} {a1 : Int32} {Q : Int32 → St → Prop} {Kx76 : St → Int32 → Prop} (hm0 : (10, 0) ∈ L) (hK76 : ∀ (σ : St) (w2 : Int32) (H : Heap) (locs : List Loc) (ls : Array Slot), Kx76 σ w2 → Wo E lay L A s σ H locs → lv_has ls 5 [(2, .int w2)] → W p l e rmX10_trial s m args below meth c H locs 0 0 (MQ below (va_Qi Q (Bd E lay L A) A) args s 0 0 A) (F0 m 76 ls [])) : ∀ (n : Nat) (σ : St) (v2 : Int32) (v3 : Int32) (H : Heap) (locs : List Loc) (ls : Array Slot), fX10_trial_l15 N a1 Q Kx76 n σ v2 v3 → Wo E lay L A s σ H locs → lv_has ls 5 [(0, .ref (lay 10 0)), (1, .int a1), (2, .int v2), (3, .int v3)] → W p l e rmX10_trial s m args below meth c H locs 0 0 (MQ below (va_Qi Q (Bd E lay L A) A) args s 0 0 A) (F0 m 15 ls []) := by
  have hx := C.1
  have hb := C.2.1
  intro n
  induction n with
  | zero => intro σ v2 v3 H locs ls hf; exact hf.elim
  | succ n ih =>
    intro σ v2 v3 H locs ls hf hw hl
    rw [fX10_trial_l15] at hf
    refine lv_iload_n hx hb dX10_trial_15 rfl (lv_at hl 3 rfl) ?_
    refine lv_aload_n hx hb dX10_trial_16 rfl (lv_at hl 0 rfl) ?_
    have hm_3 : (21, 0) ∈ L := hw.2.2.2.1 10 0 hm0 1 (by decide) (by decide) rfl
    refine x_get (v := .ref (lay 21 0)) (j := 1) C hw hm0 rfl (by decide) (by decide) rfl q290 dX10_trial_17 ?_
    refine x_alen (v := 14) C hw hm_3 (by decide) (by decide) (by decide) dX10_trial_20 ?_
    refine lv_icmp_ge (tgt := 76) hx hb dX10_trial_21 (by decide) (fun c4 => ?_) (fun c4 => ?_)
    · replace hf := hf.1 c4
      exact hK76 σ v2 _ _ _ hf hw (lv_sub hl [2] rfl)
    · replace hf := hf.2 c4
      refine lv_aload_n hx hb dX10_trial_24 rfl (lv_at hl 0 rfl) ?_
      have hm_5 : (21, 0) ∈ L := hw.2.2.2.1 10 0 hm0 1 (by decide) (by decide) rfl
      refine x_get (v := .ref (lay 21 0)) (j := 1) C hw hm0 rfl (by decide) (by decide) rfl q290 dX10_trial_25 ?_
      refine lv_iload_n hx hb dX10_trial_28 rfl (lv_at hl 3 rfl) ?_
      have hO_6 : ∀ i, (sR σ 21 0 (v3).toNatClampNeg) = some i → (8, i) ∈ L := fun i h => hw.2.2.2.2 21 _ _ i h
      refine x_aald (t := 5) (T := 8) C hw hm_5 (by decide) rfl (by decide) rfl hf.1 rfl dX10_trial_29 ?_
      replace hf := hf.2
      refine x_astore (lv' := [(4, rf lay 8 (sR σ 21 0 (v3).toNatClampNeg)), (0, .ref (lay 10 0)), (1, .int a1), (2, .int v2), (3, .int v3)]) hx hb dX10_trial_30 hl (by decide) rfl (fun ls hl => ?_)
      refine x_aload hx hb dX10_trial_32 (lv_at hl 0 rfl) ?_
      refine x_ifnull (r := (sR σ 21 0 (v3).toNatClampNeg)) (tgt := 70) hx hb dX10_trial_34 (by decide) (fun eni7 => ?_) (fun i7 eni7 => ?_)
      · replace hf := hf.1 eni7
        exact eX10_trial_b70_15 C hret hm0 ih hK76 σ v2 v3 _ _ _ hf hw (lv_sub hl [1, 2, 3, 4] rfl)
      · replace hf := hf.2 i7 eni7
        have hn_8 := hO_6 i7 eni7
        rw [eni7] at hl
        try rw [eni7]
        have hl : lv_has ls 5 [(4, .ref (lay 8 i7)), (0, .ref (lay 10 0)), (1, .int a1), (2, .int v2), (3, .int v3)] := hl
        refine lv_aload hx hb dX10_trial_37 (lv_at hl 0 rfl) ?_
        refine x_runi hw (x_V (n := 0) (rest := []) C hw hn_8 (by decide) (eX8_isInHand hf hn_8) q700 q620 q621 q55 q622 rfl rfl (by decide +kernel) ⟨Nat.le_of_ble_eq_true rfl, Nat.le_of_ble_eq_true rfl⟩ rfl hl.1 rfl (Nat.le_of_ble_eq_true rfl) dX10_trial_39) (fun r10 σ9 H locs hf hw => ?_)
        have hzr10 := hf.2
        replace hf := hf.1
        try dsimp only at hf
        refine lv_if_ne (tgt := 48) hx hb dX10_trial_42 (by decide) (fun c11 => ?_) (fun c11 => ?_)
        · replace hf := hf.1 c11
          refine lv_aload_n hx hb dX10_trial_48 rfl (lv_at hl 1 rfl) ?_
          refine lv_iload_n hx hb dX10_trial_49 rfl (lv_at hl 4 rfl) ?_
          refine lv_aload hx hb dX10_trial_50 (lv_at hl 0 rfl) ?_
          refine x_runi hw (x_V (n := 2) (rest := []) C hw hm0 (by decide) (eX10_nearestWriter hf hm0 hn_8) q679 q681 q11 q44 q682 rfl rfl (by decide +kernel) ⟨Nat.le_of_ble_eq_true rfl, Nat.le_of_ble_eq_true rfl⟩ rfl hl.1 rfl (Nat.le_of_ble_eq_true rfl) dX10_trial_52) (fun r13 σ12 H locs hf hw => ?_)
          try dsimp only at hf
          refine lv_aload hx hb dX10_trial_55 (lv_at hl 0 rfl) ?_
          refine x_getN (v := .int (sF σ12 8 i7 1)) (j := 1) (host := "WhoseHand") C hw hn_8 rfl (by decide) (by decide) rfl q407 dX10_trial_57 ?_
          refine x_runi hw (x_S (n := 2) (rest := []) C hw (eX10_outcome hf) q701 q702 q44 q703 rfl rfl (by decide +kernel) ⟨Nat.le_of_ble_eq_true rfl, Nat.le_of_ble_eq_true rfl⟩ rfl hl.1 rfl (Nat.le_of_ble_eq_true rfl) dX10_trial_60) (fun r15 σ14 H locs hf hw => ?_)
          try dsimp only at hf
          refine lv_iload_n hx hb dX10_trial_63 rfl (lv_at hl 2 rfl) ?_
          refine lv_icmp_ne (tgt := 70) hx hb dX10_trial_64 (by decide) (fun c16 => ?_) (fun c16 => ?_)
          · replace hf := hf.1 c16
            exact eX10_trial_b70_15 C hret hm0 ih hK76 σ14 v2 v3 _ _ _ hf hw (lv_sub hl [1, 2, 3, 4] rfl)
          · replace hf := hf.2 c16
            refine lv_iinc (v := (v2 + (1 : Int32))) (lv' := [(2, .int (v2 + (1 : Int32))), (4, .ref (lay 8 i7)), (0, .ref (lay 10 0)), (1, .int a1), (3, .int v3)]) hx hb dX10_trial_67 hl (k := 3) rfl (by rfl) (by decide) rfl (fun ls hl => ?_)
            exact eX10_trial_b70_15 C hret hm0 ih hK76 σ14 (v2 + (1 : Int32)) v3 _ _ _ hf hw (lv_sub hl [2, 3, 0, 4] rfl)
        · replace hf := hf.2 c11
          refine lv_goto (tgt := 70) hx hb dX10_trial_45 (by decide) ?_
          exact eX10_trial_b70_15 C hret hm0 ih hK76 σ9 v2 v3 _ _ _ hf hw (lv_sub hl [1, 2, 3, 4] rfl)
def fX10_trial (N : Nat) (σ : St) (a1 : Int32) (Q : Int32 → St → Prop) : Prop := ((a1 < 0 → Q (-1 : Int32) σ) ∧ (¬ a1 < 0 → ((a1 ≤ (2 : Int32) → fX10_trial_l15 N a1 Q (fun (σ17 : St) (u76_2 : Int32) => Q u76_2 σ17) N σ (0 : Int32) (0 : Int32)) ∧ (¬ a1 ≤ (2 : Int32) → Q (-1 : Int32) σ))))
set_option maxHeartbeats 4000000 in
set_option maxRecDepth 100000 in
theorem eX10_trial {l : Launch} {E : EC} {lay : Nat → Nat → Nat} {L : List (Nat × Nat)} {A : Nat → Prop} {N : Nat} {σ : St} {a1 : Int32} {Q : Int32 → St → Prop} (hf : fX10_trial N σ a1 Q) (hm0 : (10, 0) ∈ L) : Met l yX10_trial (.code yX10_trial cX10_trial 5 (some .int) :: big) rmX10_trial (va_Pc [.ref (lay 10 0), .int a1] (Bp E lay L A σ)) (va_Qi Q (Bd E lay L A) A) 0 0 A := by
  refine x_met (by decide +kernel) (Nat.le_of_ble_eq_true rfl) ?_
  intro p e s m args below meth c ls C hret hw hl
  have hx := C.1
  have hb := C.2.1
  have hl : lv_has ls 5 [(0, .ref (lay 10 0)), (1, .int a1)] := hl
  unfold fX10_trial at hf
  refine lv_iload_n hx hb dX10_trial_0 rfl (lv_at hl 1 rfl) ?_
  refine lv_if_lt (tgt := 9) hx hb dX10_trial_1 (by decide) (fun c1 => ?_) (fun c1 => ?_)
  · replace hf := hf.1 c1
    refine lv_iconst (v := (-1)) hx hb dX10_trial_9 (by decide) ?_
    exact x_iret C hret hw hf dX10_trial_10
  · replace hf := hf.2 c1
    refine lv_iload_n hx hb dX10_trial_4 rfl (lv_at hl 1 rfl) ?_
    refine lv_iconst (v := 2) hx hb dX10_trial_5 (by decide) ?_
    refine lv_icmp_le (tgt := 11) hx hb dX10_trial_6 (by decide) (fun c2 => ?_) (fun c2 => ?_)
    · replace hf := hf.1 c2
      refine lv_iconst (v := 0) hx hb dX10_trial_11 (by decide) ?_
      refine lv_istore_n (lv' := [(2, .int (0 : Int32)), (0, .ref (lay 10 0)), (1, .int a1)]) hx hb dX10_trial_12 rfl hl (by decide) rfl (fun ls hl => ?_)
      refine lv_iconst (v := 0) hx hb dX10_trial_13 (by decide) ?_
      refine lv_istore_n (lv' := [(3, .int (0 : Int32)), (2, .int (0 : Int32)), (0, .ref (lay 10 0)), (1, .int a1)]) hx hb dX10_trial_14 rfl hl (by decide) rfl (fun ls hl => ?_)
      refine eX10_trial_l15 C hret hm0 ?_ N σ (0 : Int32) (0 : Int32) _ _ _ hf hw (lv_sub hl [2, 3, 1, 0] rfl)
      · intro σ17 u76_2 H locs ls hf hw hl
        refine lv_iload_n hx hb dX10_trial_76 rfl (lv_at hl 0 rfl) ?_
        exact x_iret C hret hw hf dX10_trial_77
    · replace hf := hf.2 c2
      refine lv_iconst (v := (-1)) hx hb dX10_trial_9 (by decide) ?_
      exact x_iret C hret hw hf dX10_trial_10
-- X10_taken
abbrev rmX10_taken : Room := { frames := 6, cells := 0, slots := 0, locals := 136 }
def fX10_taken_b69_21 (N : Nat) (a1 : Int32) (a2 : Int32) (Q : Int32 → St → Prop) (Kh : St → Int32 → Int32 → Prop) (Kx75 : St → Int32 → Prop) (σ : St) (v3 : Int32) (v4 : Int32) : Prop := Kh σ v3 (v4 + (1 : Int32))
def fX10_taken_l21 (N : Nat) (a1 : Int32) (a2 : Int32) (Q : Int32 → St → Prop) (Kx75 : St → Int32 → Prop) : Nat → St → Int32 → Int32 → Prop
  | 0, _, _, _ => False
  | n + 1, σ, v3, v4 => (((14 : Int32) ≤ v4 → Kx75 σ v3) ∧ (¬ (14 : Int32) ≤ v4 → (vp_in v4 14 ∧ (((sR σ 21 0 (v4).toNatClampNeg) = none → fX10_taken_b69_21 N a1 a2 Q (fun (σ : St) (w3 : Int32) (w4 : Int32) => fX10_taken_l21 N a1 a2 Q Kx75 n σ w3 w4) Kx75 σ v3 v4) ∧ (∀ i11, (sR σ 21 0 (v4).toNatClampNeg) = some i11 → fX8_isBy N σ i11 a1 (fun (r14 : Int32) (σ13 : St) => ((r14 = 0 → fX10_taken_b69_21 N a1 a2 Q (fun (σ : St) (w3 : Int32) (w4 : Int32) => fX10_taken_l21 N a1 a2 Q Kx75 n σ w3 w4) Kx75 σ13 v3 v4) ∧ (¬ r14 = 0 → fX10_nearestWriter N σ13 v4 i11 (fun (r17 : Int32) (σ16 : St) => ((¬ r17 = a2 → fX10_taken_b69_21 N a1 a2 Q (fun (σ : St) (w3 : Int32) (w4 : Int32) => fX10_taken_l21 N a1 a2 Q Kx75 n σ w3 w4) Kx75 σ16 v3 v4) ∧ (r17 = a2 → fX10_taken_b69_21 N a1 a2 Q (fun (σ : St) (w3 : Int32) (w4 : Int32) => fX10_taken_l21 N a1 a2 Q Kx75 n σ w3 w4) Kx75 σ16 (v3 + (1 : Int32)) v4)))))))))))
set_option maxHeartbeats 4000000 in
set_option maxRecDepth 100000 in
theorem eX10_taken_b69_21 {p : Program} {l : Launch} {e : Env} {s : State} {m : MethodId} {args : Array Value} {below : List Frame} {meth : Method} {c : Code} {E : EC} {lay : Nat → Nat → Nat} {L : List (Nat × Nat)} {A : Nat → Prop} (C : Cx p s m args c meth yX10_taken.cls cX10_taken 6 E A) (hret : meth.sig.returnType = some .int) {N : Nat} {a1 : Int32} {a2 : Int32} {Q : Int32 → St → Prop} {Kh : St → Int32 → Int32 → Prop} {Kx75 : St → Int32 → Prop} (hm0 : (10, 0) ∈ L) (hKh : ∀ (σ : St) (w3 : Int32) (w4 : Int32) (H : Heap) (locs : List Loc) (ls : Array Slot), Kh σ w3 w4 → Wo E lay L A s σ H locs → lv_has ls 6 [(0, .ref (lay 10 0)), (1, .int a1), (2, .int a2), (3, .int w3), (4, .int w4)] → W p l e rmX10_taken s m args below meth c H locs 0 0 (MQ below (va_Qi Q (Bd E lay L A) A) args s 0 0 A) (F0 m 21 ls [])) (hK75 : ∀ (σ : St) (w3 : Int32) (H : Heap) (locs : List Loc) (ls : Array Slot), Kx75 σ w3 → Wo E lay L A s σ H locs → lv_has ls 6 [(3, .int w3)] → W p l e rmX10_taken s m args below meth c H locs 0 0 (MQ below (va_Qi Q (Bd E lay L A) A) args s 0 0 A) (F0 m 75 ls [])) (σ : St) (v3 : Int32) (v4 : Int32) (H : Heap) (locs : List Loc) (ls : Array Slot) (hf : fX10_taken_b69_21 N a1 a2 Q Kh Kx75 σ v3 v4) (hw : Wo E lay L A s σ H locs) (hl : lv_has ls 6 [(0, .ref (lay 10 0)), (1, .int a1), (2, .int a2), (3, .int v3), (4, .int v4)]) : W p l e rmX10_taken s m args below meth c H locs 0 0 (MQ below (va_Qi Q (Bd E lay L A) A) args s 0 0 A) (F0 m 69 ls []) := by
  have hx := C.1
  have hb := C.2.1
  unfold fX10_taken_b69_21 at hf
  refine lv_iinc (v := (v4 + (1 : Int32))) (lv' := [(4, .int (v4 + (1 : Int32))), (0, .ref (lay 10 0)), (1, .int a1), (2, .int a2), (3, .int v3)]) hx hb dX10_taken_69 hl (k := 4) rfl (by rfl) (by decide) rfl (fun ls hl => ?_)
  refine lv_goto (tgt := 21) hx hb dX10_taken_72 (by decide) ?_
  exact hKh σ v3 (v4 + (1 : Int32)) _ _ _ hf hw (lv_sub hl [1, 2, 3, 4, 0] rfl)
set_option maxHeartbeats 4000000 in
set_option maxRecDepth 100000 in
theorem eX10_taken_l21 {p : Program} {l : Launch} {e : Env} {s : State} {m : MethodId} {args : Array Value} {below : List Frame} {meth : Method} {c : Code} {E : EC} {lay : Nat → Nat → Nat} {L : List (Nat × Nat)} {A : Nat → Prop} (C : Cx p s m args c meth yX10_taken.cls cX10_taken 6 E A) (hret : meth.sig.returnType = some .int) {N : Nat} {a1 : Int32} {a2 : Int32} {Q : Int32 → St → Prop} {Kx75 : St → Int32 → Prop} (hm0 : (10, 0) ∈ L) (hK75 : ∀ (σ : St) (w3 : Int32) (H : Heap) (locs : List Loc) (ls : Array Slot), Kx75 σ w3 → Wo E lay L A s σ H locs → lv_has ls 6 [(3, .int w3)] → W p l e rmX10_taken s m args below meth c H locs 0 0 (MQ below (va_Qi Q (Bd E lay L A) A) args s 0 0 A) (F0 m 75 ls [])) : ∀ (n : Nat) (σ : St) (v3 : Int32) (v4 : Int32) (H : Heap) (locs : List Loc) (ls : Array Slot), fX10_taken_l21 N a1 a2 Q Kx75 n σ v3 v4 → Wo E lay L A s σ H locs → lv_has ls 6 [(0, .ref (lay 10 0)), (1, .int a1), (2, .int a2), (3, .int v3), (4, .int v4)] → W p l e rmX10_taken s m args below meth c H locs 0 0 (MQ below (va_Qi Q (Bd E lay L A) A) args s 0 0 A) (F0 m 21 ls []) := by
  have hx := C.1
  have hb := C.2.1
  intro n
  induction n with
  | zero => intro σ v3 v4 H locs ls hf; exact hf.elim
  | succ n ih =>
    intro σ v3 v4 H locs ls hf hw hl
    rw [fX10_taken_l21] at hf
    refine lv_iload hx hb dX10_taken_21 (lv_at hl 4 rfl) ?_
    refine lv_aload_n hx hb dX10_taken_23 rfl (lv_at hl 0 rfl) ?_
    have hm_7 : (21, 0) ∈ L := hw.2.2.2.1 10 0 hm0 1 (by decide) (by decide) rfl
    refine x_get (v := .ref (lay 21 0)) (j := 1) C hw hm0 rfl (by decide) (by decide) rfl q290 dX10_taken_24 ?_
    refine x_alen (v := 14) C hw hm_7 (by decide) (by decide) (by decide) dX10_taken_27 ?_
    refine lv_icmp_ge (tgt := 75) hx hb dX10_taken_28 (by decide) (fun c8 => ?_) (fun c8 => ?_)
    · replace hf := hf.1 c8
      exact hK75 σ v3 _ _ _ hf hw (lv_sub hl [3] rfl)
    · replace hf := hf.2 c8
      refine lv_aload_n hx hb dX10_taken_31 rfl (lv_at hl 0 rfl) ?_
      have hm_9 : (21, 0) ∈ L := hw.2.2.2.1 10 0 hm0 1 (by decide) (by decide) rfl
      refine x_get (v := .ref (lay 21 0)) (j := 1) C hw hm0 rfl (by decide) (by decide) rfl q290 dX10_taken_32 ?_
      refine lv_iload hx hb dX10_taken_35 (lv_at hl 4 rfl) ?_
      have hO_10 : ∀ i, (sR σ 21 0 (v4).toNatClampNeg) = some i → (8, i) ∈ L := fun i h => hw.2.2.2.2 21 _ _ i h
      refine x_aald (t := 5) (T := 8) C hw hm_9 (by decide) rfl (by decide) rfl hf.1 rfl dX10_taken_37 ?_
      replace hf := hf.2
      refine x_astore (lv' := [(5, rf lay 8 (sR σ 21 0 (v4).toNatClampNeg)), (0, .ref (lay 10 0)), (1, .int a1), (2, .int a2), (3, .int v3), (4, .int v4)]) hx hb dX10_taken_38 hl (by decide) rfl (fun ls hl => ?_)
      refine x_aload hx hb dX10_taken_40 (lv_at hl 0 rfl) ?_
      refine x_ifnull (r := (sR σ 21 0 (v4).toNatClampNeg)) (tgt := 69) hx hb dX10_taken_42 (by decide) (fun eni11 => ?_) (fun i11 eni11 => ?_)
      · replace hf := hf.1 eni11
        exact eX10_taken_b69_21 C hret hm0 ih hK75 σ v3 v4 _ _ _ hf hw (lv_sub hl [1, 2, 3, 4, 5] rfl)
      · replace hf := hf.2 i11 eni11
        have hn_12 := hO_10 i11 eni11
        rw [eni11] at hl
        try rw [eni11]
        have hl : lv_has ls 6 [(5, .ref (lay 8 i11)), (0, .ref (lay 10 0)), (1, .int a1), (2, .int a2), (3, .int v3), (4, .int v4)] := hl
        refine lv_aload hx hb dX10_taken_45 (lv_at hl 0 rfl) ?_
        refine lv_iload_n hx hb dX10_taken_47 rfl (lv_at hl 2 rfl) ?_
        refine x_runi hw (x_V (n := 1) (rest := []) C hw hn_12 (by decide) (eX8_isBy hf hn_12) q708 q616 q617 q55 q618 rfl rfl (by decide +kernel) ⟨Nat.le_of_ble_eq_true rfl, Nat.le_of_ble_eq_true rfl⟩ rfl hl.1 rfl (Nat.le_of_ble_eq_true rfl) dX10_taken_48) (fun r14 σ13 H locs hf hw => ?_)
        have hzr14 := hf.2
        replace hf := hf.1
        try dsimp only at hf
        refine lv_if_eq (tgt := 69) hx hb dX10_taken_51 (by decide) (fun c15 => ?_) (fun c15 => ?_)
        · replace hf := hf.1 c15
          exact eX10_taken_b69_21 C hret hm0 ih hK75 σ13 v3 v4 _ _ _ hf hw (lv_sub hl [1, 2, 3, 4, 5] rfl)
        · replace hf := hf.2 c15
          refine lv_aload_n hx hb dX10_taken_54 rfl (lv_at hl 1 rfl) ?_
          refine lv_iload hx hb dX10_taken_55 (lv_at hl 5 rfl) ?_
          refine lv_aload hx hb dX10_taken_57 (lv_at hl 0 rfl) ?_
          refine x_runi hw (x_V (n := 2) (rest := []) C hw hm0 (by decide) (eX10_nearestWriter hf hm0 hn_12) q679 q681 q11 q44 q682 rfl rfl (by decide +kernel) ⟨Nat.le_of_ble_eq_true rfl, Nat.le_of_ble_eq_true rfl⟩ rfl hl.1 rfl (Nat.le_of_ble_eq_true rfl) dX10_taken_59) (fun r17 σ16 H locs hf hw => ?_)
          try dsimp only at hf
          refine lv_iload_n hx hb dX10_taken_62 rfl (lv_at hl 3 rfl) ?_
          refine lv_icmp_ne (tgt := 69) hx hb dX10_taken_63 (by decide) (fun c18 => ?_) (fun c18 => ?_)
          · replace hf := hf.1 c18
            exact eX10_taken_b69_21 C hret hm0 ih hK75 σ16 v3 v4 _ _ _ hf hw (lv_sub hl [1, 2, 3, 4, 5] rfl)
          · replace hf := hf.2 c18
            refine lv_iinc (v := (v3 + (1 : Int32))) (lv' := [(3, .int (v3 + (1 : Int32))), (5, .ref (lay 8 i11)), (0, .ref (lay 10 0)), (1, .int a1), (2, .int a2), (4, .int v4)]) hx hb dX10_taken_66 hl (k := 4) rfl (by rfl) (by decide) rfl (fun ls hl => ?_)
            exact eX10_taken_b69_21 C hret hm0 ih hK75 σ16 (v3 + (1 : Int32)) v4 _ _ _ hf hw (lv_sub hl [2, 3, 4, 0, 5] rfl)
def fX10_taken (N : Nat) (σ : St) (a1 : Int32) (a2 : Int32) (Q : Int32 → St → Prop) : Prop := fX10_isWriter N σ a1 (fun (r2 : Int32) (σ1 : St) => ((r2 = 0 → Q (-1 : Int32) σ1) ∧ (¬ r2 = 0 → fX10_isWriter N σ1 a2 (fun (r5 : Int32) (σ4 : St) => ((¬ r5 = 0 → fX10_taken_l21 N a1 a2 Q (fun (σ19 : St) (u75_3 : Int32) => Q u75_3 σ19) N σ4 (0 : Int32) (0 : Int32)) ∧ (r5 = 0 → Q (-1 : Int32) σ4))))))
set_option maxHeartbeats 4000000 in
set_option maxRecDepth 100000 in
theorem eX10_taken {l : Launch} {E : EC} {lay : Nat → Nat → Nat} {L : List (Nat × Nat)} {A : Nat → Prop} {N : Nat} {σ : St} {a1 : Int32} {a2 : Int32} {Q : Int32 → St → Prop} (hf : fX10_taken N σ a1 a2 Q) (hm0 : (10, 0) ∈ L) : Met l yX10_taken (.code yX10_taken cX10_taken 6 (some .int) :: big) rmX10_taken (va_Pc [.ref (lay 10 0), .int a1, .int a2] (Bp E lay L A σ)) (va_Qi Q (Bd E lay L A) A) 0 0 A := by
  refine x_met (by decide +kernel) (Nat.le_of_ble_eq_true rfl) ?_
  intro p e s m args below meth c ls C hret hw hl
  have hx := C.1
  have hb := C.2.1
  have hl : lv_has ls 6 [(0, .ref (lay 10 0)), (1, .int a1), (2, .int a2)] := hl
  unfold fX10_taken at hf
  refine lv_iload_n hx hb dX10_taken_0 rfl (lv_at hl 1 rfl) ?_
  refine x_runi hw (x_S (n := 1) (rest := []) C hw (eX10_isWriter hf) q392 q393 q44 q394 rfl rfl (by decide +kernel) ⟨Nat.le_of_ble_eq_true rfl, Nat.le_of_ble_eq_true rfl⟩ rfl hl.1 rfl (Nat.le_of_ble_eq_true rfl) dX10_taken_1) (fun r2 σ1 H locs hf hw => ?_)
  have hzr2 := hf.2
  replace hf := hf.1
  try dsimp only at hf
  refine lv_if_eq (tgt := 14) hx hb dX10_taken_4 (by decide) (fun c3 => ?_) (fun c3 => ?_)
  · replace hf := hf.1 c3
    refine lv_iconst (v := (-1)) hx hb dX10_taken_14 (by decide) ?_
    exact x_iret C hret hw hf dX10_taken_15
  · replace hf := hf.2 c3
    refine lv_iload_n hx hb dX10_taken_7 rfl (lv_at hl 2 rfl) ?_
    refine x_runi hw (x_S (n := 1) (rest := []) C hw (eX10_isWriter hf) q392 q393 q44 q394 rfl rfl (by decide +kernel) ⟨Nat.le_of_ble_eq_true rfl, Nat.le_of_ble_eq_true rfl⟩ rfl hl.1 rfl (Nat.le_of_ble_eq_true rfl) dX10_taken_8) (fun r5 σ4 H locs hf hw => ?_)
    have hzr5 := hf.2
    replace hf := hf.1
    try dsimp only at hf
    refine lv_if_ne (tgt := 16) hx hb dX10_taken_11 (by decide) (fun c6 => ?_) (fun c6 => ?_)
    · replace hf := hf.1 c6
      refine lv_iconst (v := 0) hx hb dX10_taken_16 (by decide) ?_
      refine lv_istore_n (lv' := [(3, .int (0 : Int32)), (0, .ref (lay 10 0)), (1, .int a1), (2, .int a2)]) hx hb dX10_taken_17 rfl hl (by decide) rfl (fun ls hl => ?_)
      refine lv_iconst (v := 0) hx hb dX10_taken_18 (by decide) ?_
      refine lv_istore (lv' := [(4, .int (0 : Int32)), (3, .int (0 : Int32)), (0, .ref (lay 10 0)), (1, .int a1), (2, .int a2)]) hx hb dX10_taken_19 hl (by decide) rfl (fun ls hl => ?_)
      refine eX10_taken_l21 C hret hm0 ?_ N σ4 (0 : Int32) (0 : Int32) _ _ _ hf hw (lv_sub hl [2, 3, 4, 1, 0] rfl)
      · intro σ19 u75_3 H locs ls hf hw hl
        refine lv_iload_n hx hb dX10_taken_75 rfl (lv_at hl 0 rfl) ?_
        exact x_iret C hret hw hf dX10_taken_76
    · replace hf := hf.2 c6
      refine lv_iconst (v := (-1)) hx hb dX10_taken_14 (by decide) ?_
      exact x_iret C hret hw hf dX10_taken_15
-- X10_impostors
abbrev rmX10_impostors : Room := { frames := 5, cells := 0, slots := 0, locals := 114 }
def fX10_impostors_b150_94 (N : Nat) (a1 : Int32) (a2 : Int32) (a3 : Int32) (a4 : Int64) (Q : Int32 → St → Prop) (Kh : St → Int32 → Int64 → Int32 → Prop) (Kx156 : St → Int32 → Prop) (σ : St) (v7 : Int32) (v8 : Int64) (v10 : Int32) : Prop := Kh σ v7 v8 (v10 + (1 : Int32))
def fX10_impostors_l94 (N : Nat) (a1 : Int32) (a2 : Int32) (a3 : Int32) (a4 : Int64) (Q : Int32 → St → Prop) (Kx156 : St → Int32 → Prop) : Nat → St → Int32 → Int64 → Int32 → Prop
  | 0, _, _, _, _ => False
  | n + 1, σ, v7, v8, v10 => ((a3 ≤ v10 → Kx156 σ v7) ∧ (¬ a3 ≤ v10 → fX2_featuresOf N σ (((((v8 * (1103515245 : Int64)) + (12345 : Int64))).toUInt64 >>> (((16 : Int32)).toInt64.toUInt64 &&& Int64.toUInt64 63)).toInt64) (fun (r21 : Int32) (σ20 : St) => fX1_nearestTo N σ20 0 r21 (fun (r26 : Int32) (σ25 : St) => ((¬ r26 = a2 → fX10_impostors_b150_94 N a1 a2 a3 a4 Q (fun (σ : St) (w7 : Int32) (w8 : Int64) (w10 : Int32) => fX10_impostors_l94 N a1 a2 a3 a4 Q Kx156 n σ w7 w8 w10) Kx156 σ25 v7 ((v8 * (1103515245 : Int64)) + (12345 : Int64)) v10) ∧ (r26 = a2 → fX10_impostors_b150_94 N a1 a2 a3 a4 Q (fun (σ : St) (w7 : Int32) (w8 : Int64) (w10 : Int32) => fX10_impostors_l94 N a1 a2 a3 a4 Q Kx156 n σ w7 w8 w10) Kx156 σ25 (v7 + (1 : Int32)) ((v8 * (1103515245 : Int64)) + (12345 : Int64)) v10))))))
set_option maxHeartbeats 4000000 in
set_option maxRecDepth 100000 in
theorem eX10_impostors_b150_94 {p : Program} {l : Launch} {e : Env} {s : State} {m : MethodId} {args : Array Value} {below : List Frame} {meth : Method} {c : Code} {E : EC} {lay : Nat → Nat → Nat} {L : List (Nat × Nat)} {A : Nat → Prop} (C : Cx p s m args c meth yX10_impostors.cls cX10_impostors 12 E A) (hret : meth.sig.returnType = some .int) {N : Nat} {a1 : Int32} {a2 : Int32} {a3 : Int32} {a4 : Int64} {Q : Int32 → St → Prop} {Kh : St → Int32 → Int64 → Int32 → Prop} {Kx156 : St → Int32 → Prop} (hm0 : (10, 0) ∈ L) (hKh : ∀ (σ : St) (w7 : Int32) (w8 : Int64) (w10 : Int32) (H : Heap) (locs : List Loc) (ls : Array Slot), Kh σ w7 w8 w10 → Wo E lay L A s σ H locs → lv_has ls 12 [(0, .ref (lay 10 0)), (2, .int a2), (3, .int a3), (7, .int w7), (8, .long w8), (10, .int w10)] → W p l e rmX10_impostors s m args below meth c H locs 0 0 (MQ below (va_Qi Q (Bd E lay L A) A) args s 0 0 A) (F0 m 94 ls [])) (hK156 : ∀ (σ : St) (w7 : Int32) (H : Heap) (locs : List Loc) (ls : Array Slot), Kx156 σ w7 → Wo E lay L A s σ H locs → lv_has ls 12 [(7, .int w7)] → W p l e rmX10_impostors s m args below meth c H locs 0 0 (MQ below (va_Qi Q (Bd E lay L A) A) args s 0 0 A) (F0 m 156 ls [])) (σ : St) (v7 : Int32) (v8 : Int64) (v10 : Int32) (H : Heap) (locs : List Loc) (ls : Array Slot) (hf : fX10_impostors_b150_94 N a1 a2 a3 a4 Q Kh Kx156 σ v7 v8 v10) (hw : Wo E lay L A s σ H locs) (hl : lv_has ls 12 [(0, .ref (lay 10 0)), (2, .int a2), (3, .int a3), (7, .int v7), (8, .long v8), (10, .int v10)]) : W p l e rmX10_impostors s m args below meth c H locs 0 0 (MQ below (va_Qi Q (Bd E lay L A) A) args s 0 0 A) (F0 m 150 ls []) := by
  have hx := C.1
  have hb := C.2.1
  unfold fX10_impostors_b150_94 at hf
  refine lv_iinc (v := (v10 + (1 : Int32))) (lv' := [(10, .int (v10 + (1 : Int32))), (0, .ref (lay 10 0)), (2, .int a2), (3, .int a3), (7, .int v7), (8, .long v8)]) hx hb dX10_impostors_150 hl (k := 5) rfl (by rfl) (by decide) rfl (fun ls hl => ?_)
  refine lv_goto (tgt := 94) hx hb dX10_impostors_153 (by decide) ?_
  exact hKh σ v7 v8 (v10 + (1 : Int32)) _ _ _ hf hw (lv_sub hl [1, 2, 3, 4, 5, 0] rfl)
set_option maxHeartbeats 4000000 in
set_option maxRecDepth 100000 in
theorem eX10_impostors_l94 {p : Program} {l : Launch} {e : Env} {s : State} {m : MethodId} {args : Array Value} {below : List Frame} {meth : Method} {c : Code} {E : EC} {lay : Nat → Nat → Nat} {L : List (Nat × Nat)} {A : Nat → Prop} (C : Cx p s m args c meth yX10_impostors.cls cX10_impostors 12 E A) (hret : meth.sig.returnType = some .int) {N : Nat} {a1 : Int32} {a2 : Int32} {a3 : Int32} {a4 : Int64} {Q : Int32 → St → Prop} {Kx156 : St → Int32 → Prop} (hm0 : (10, 0) ∈ L) (hK156 : ∀ (σ : St) (w7 : Int32) (H : Heap) (locs : List Loc) (ls : Array Slot), Kx156 σ w7 → Wo E lay L A s σ H locs → lv_has ls 12 [(7, .int w7)] → W p l e rmX10_impostors s m args below meth c H locs 0 0 (MQ below (va_Qi Q (Bd E lay L A) A) args s 0 0 A) (F0 m 156 ls [])) : ∀ (n : Nat) (σ : St) (v7 : Int32) (v8 : Int64) (v10 : Int32) (H : Heap) (locs : List Loc) (ls : Array Slot), fX10_impostors_l94 N a1 a2 a3 a4 Q Kx156 n σ v7 v8 v10 → Wo E lay L A s σ H locs → lv_has ls 12 [(0, .ref (lay 10 0)), (2, .int a2), (3, .int a3), (7, .int v7), (8, .long v8), (10, .int v10)] → W p l e rmX10_impostors s m args below meth c H locs 0 0 (MQ below (va_Qi Q (Bd E lay L A) A) args s 0 0 A) (F0 m 94 ls []) := by
  have hx := C.1
  have hb := C.2.1
  intro n
  induction n with
  | zero => intro σ v7 v8 v10 H locs ls hf; exact hf.elim
  | succ n ih =>
    intro σ v7 v8 v10 H locs ls hf hw hl
    rw [fX10_impostors_l94] at hf
    refine lv_iload hx hb dX10_impostors_94 (lv_at hl 5 rfl) ?_
    refine lv_iload_n hx hb dX10_impostors_96 rfl (lv_at hl 2 rfl) ?_
    refine lv_icmp_ge (tgt := 156) hx hb dX10_impostors_97 (by decide) (fun c18 => ?_) (fun c18 => ?_)
    · replace hf := hf.1 c18
      exact hK156 σ v7 _ _ _ hf hw (lv_sub hl [3] rfl)
    · replace hf := hf.2 c18
      refine lv_lload hx hb dX10_impostors_100 (lv_at hl 4 rfl) ?_
      refine lv_ldc2 (v := 1103515245) hx hb C.2.2.2.1 (C.2.2.2.2.1 _ q713) dX10_impostors_102 ?_
      refine lv_lmul hx hb dX10_impostors_105 ?_
      refine lv_ldc2 (v := 12345) hx hb C.2.2.2.1 (C.2.2.2.2.1 _ q714) dX10_impostors_106 ?_
      refine lv_ladd hx hb dX10_impostors_109 ?_
      refine lv_lstore (lv' := [(8, .long ((v8 * (1103515245 : Int64)) + (12345 : Int64))), (0, .ref (lay 10 0)), (2, .int a2), (3, .int a3), (7, .int v7), (10, .int v10)]) hx hb dX10_impostors_110 hl (by decide) rfl (fun ls hl => ?_)
      refine lv_aload_n hx hb dX10_impostors_112 rfl (lv_at hl 1 rfl) ?_
      have hm_19 : (2, 0) ∈ L := hw.2.2.2.1 10 0 hm0 2 (by decide) (by decide) rfl
      refine x_get (v := .ref (lay 2 0)) (j := 2) C hw hm0 rfl (by decide) (by decide) rfl q291 dX10_impostors_113 ?_
      refine lv_lload hx hb dX10_impostors_116 (lv_at hl 0 rfl) ?_
      refine lv_bipush (v := 16) hx hb dX10_impostors_118 (by decide) ?_
      refine lv_lushr hx hb dX10_impostors_120 rfl ?_
      refine x_runi hw (x_V (n := 1) (rest := []) C hw hm_19 (by decide) (eX2_featuresOf hf hm_19) q715 q716 q717 q45 q718 rfl rfl (by decide +kernel) ⟨Nat.le_of_ble_eq_true rfl, Nat.le_of_ble_eq_true rfl⟩ rfl hl.1 rfl (Nat.le_of_ble_eq_true rfl) dX10_impostors_121) (fun r21 σ20 H locs hf hw => ?_)
      try dsimp only at hf
      refine lv_istore (lv' := [(11, .int r21), (8, .long ((v8 * (1103515245 : Int64)) + (12345 : Int64))), (0, .ref (lay 10 0)), (2, .int a2), (3, .int a3), (7, .int v7), (10, .int v10)]) hx hb dX10_impostors_124 hl (by decide) rfl (fun ls hl => ?_)
      refine lv_aload_n hx hb dX10_impostors_126 rfl (lv_at hl 2 rfl) ?_
      have hm_22 : (1, 0) ∈ L := hw.2.2.2.1 10 0 hm0 3 (by decide) (by decide) rfl
      refine x_get (v := .ref (lay 1 0)) (j := 3) C hw hm0 rfl (by decide) (by decide) rfl q292 dX10_impostors_127 ?_
      refine lv_aload_n hx hb dX10_impostors_130 rfl (lv_at hl 2 rfl) ?_
      have hm_23 : (23, 0) ∈ L := hw.2.2.2.1 10 0 hm0 8 (by decide) (by decide) rfl
      refine x_get (v := .ref (lay 23 0)) (j := 8) C hw hm0 rfl (by decide) (by decide) rfl q297 dX10_impostors_131 ?_
      refine lv_aload_n hx hb dX10_impostors_134 rfl (lv_at hl 2 rfl) ?_
      have hm_24 : (2, 0) ∈ L := hw.2.2.2.1 10 0 hm0 2 (by decide) (by decide) rfl
      refine x_get (v := .ref (lay 2 0)) (j := 2) C hw hm0 rfl (by decide) (by decide) rfl q291 dX10_impostors_135 ?_
      refine lv_iload hx hb dX10_impostors_138 (lv_at hl 0 rfl) ?_
      refine x_runi hw (x_V (n := 3) (rest := []) C hw hm_22 (by decide) (eX1_nearestTo hf hm_22 hm_23 hm_24) q683 q684 q685 q46 q686 rfl rfl (by decide +kernel) ⟨Nat.le_of_ble_eq_true rfl, Nat.le_of_ble_eq_true rfl⟩ rfl hl.1 rfl (Nat.le_of_ble_eq_true rfl) dX10_impostors_140) (fun r26 σ25 H locs hf hw => ?_)
      try dsimp only at hf
      refine lv_iload_n hx hb dX10_impostors_143 rfl (lv_at hl 3 rfl) ?_
      refine lv_icmp_ne (tgt := 150) hx hb dX10_impostors_144 (by decide) (fun c27 => ?_) (fun c27 => ?_)
      · replace hf := hf.1 c27
        exact eX10_impostors_b150_94 C hret hm0 ih hK156 σ25 v7 ((v8 * (1103515245 : Int64)) + (12345 : Int64)) v10 _ _ _ hf hw (lv_sub hl [2, 3, 4, 5, 1, 6] rfl)
      · replace hf := hf.2 c27
        refine lv_iinc (v := (v7 + (1 : Int32))) (lv' := [(7, .int (v7 + (1 : Int32))), (11, .int r21), (8, .long ((v8 * (1103515245 : Int64)) + (12345 : Int64))), (0, .ref (lay 10 0)), (2, .int a2), (3, .int a3), (10, .int v10)]) hx hb dX10_impostors_147 hl (k := 5) rfl (by rfl) (by decide) rfl (fun ls hl => ?_)
        exact eX10_impostors_b150_94 C hret hm0 ih hK156 σ25 (v7 + (1 : Int32)) ((v8 * (1103515245 : Int64)) + (12345 : Int64)) v10 _ _ _ hf hw (lv_sub hl [3, 4, 5, 0, 2, 6] rfl)
def fX10_impostors (N : Nat) (σ : St) (a1 : Int32) (a2 : Int32) (a3 : Int32) (a4 : Int64) (Q : Int32 → St → Prop) : Prop := fX10_textAt N σ a1 (fun (r2 : Option Nat) (σ1 : St) => ((r2 = none → Q (-1 : Int32) σ1) ∧ (∀ i3, r2 = some i3 → fX10_isWriter N σ1 a2 (fun (r6 : Int32) (σ5 : St) => ((r6 = 0 → Q (-1 : Int32) σ5) ∧ (¬ r6 = 0 → ((a3 < (1 : Int32) → Q (-1 : Int32) σ5) ∧ (¬ a3 < (1 : Int32) → ((a3 ≤ (200 : Int32) → ((¬ (sF σ5 2 0 2) = 0 → (((sF σ5 8 i3 5) = 0 → fX10_readHandsFor N σ5 a1 i3 (fun (σ13 : St) => fX1_has N σ13 a2 (fun (r16 : Int32) (σ15 : St) => ((¬ r16 = 0 → fX10_impostors_l94 N a1 a2 a3 a4 Q (fun (σ28 : St) (u156_7 : Int32) => Q u156_7 σ28) N σ15 (0 : Int32) a4 (0 : Int32)) ∧ (r16 = 0 → fX10_found N σ15 (4 : Int32) (fun (r30 : Int32) (σ29 : St) => Q r30 σ29)))))) ∧ (¬ (sF σ5 8 i3 5) = 0 → fX10_found N σ5 (1 : Int32) (fun (r32 : Int32) (σ31 : St) => Q r32 σ31)))) ∧ ((sF σ5 2 0 2) = 0 → Q (-4 : Int32) σ5))) ∧ (¬ a3 ≤ (200 : Int32) → Q (-1 : Int32) σ5))))))))))
set_option maxHeartbeats 4000000 in
set_option maxRecDepth 100000 in
theorem eX10_impostors {l : Launch} {E : EC} {lay : Nat → Nat → Nat} {L : List (Nat × Nat)} {A : Nat → Prop} {N : Nat} {σ : St} {a1 : Int32} {a2 : Int32} {a3 : Int32} {a4 : Int64} {Q : Int32 → St → Prop} (hf : fX10_impostors N σ a1 a2 a3 a4 Q) (hm0 : (10, 0) ∈ L) : Met l yX10_impostors (.code yX10_impostors cX10_impostors 12 (some .int) :: big) rmX10_impostors (va_Pc [.ref (lay 10 0), .int a1, .int a2, .int a3, .long a4] (Bp E lay L A σ)) (va_Qi Q (Bd E lay L A) A) 0 0 A := by
  refine x_met (by decide +kernel) (Nat.le_of_ble_eq_true rfl) ?_
  intro p e s m args below meth c ls C hret hw hl
  have hx := C.1
  have hb := C.2.1
  have hl : lv_has ls 12 [(0, .ref (lay 10 0)), (1, .int a1), (2, .int a2), (3, .int a3), (4, .long a4)] := hl
  unfold fX10_impostors at hf
  refine lv_aload_n hx hb dX10_impostors_0 rfl (lv_at hl 0 rfl) ?_
  refine lv_iload_n hx hb dX10_impostors_1 rfl (lv_at hl 1 rfl) ?_
  refine x_runq hw (x_V (n := 1) (rest := []) C hw hm0 (by decide) (eX10_textAt hf hm0) q513 q515 q9 q44 q516 rfl rfl (by decide +kernel) ⟨Nat.le_of_ble_eq_true rfl, Nat.le_of_ble_eq_true rfl⟩ rfl hl.1 rfl (Nat.le_of_ble_eq_true rfl) dX10_impostors_2) (fun r2 σ1 H locs hf hOr2 hw => ?_)
  try dsimp only at hf
  refine x_astore (lv' := [(6, rf lay 8 r2), (0, .ref (lay 10 0)), (1, .int a1), (2, .int a2), (3, .int a3), (4, .long a4)]) hx hb dX10_impostors_5 hl (by decide) rfl (fun ls hl => ?_)
  refine x_aload hx hb dX10_impostors_7 (lv_at hl 0 rfl) ?_
  refine x_ifnull (r := r2) (tgt := 31) hx hb dX10_impostors_9 (by decide) (fun eni3 => ?_) (fun i3 eni3 => ?_)
  · replace hf := hf.1 eni3
    refine lv_iconst (v := (-1)) hx hb dX10_impostors_31 (by decide) ?_
    exact x_iret C hret hw hf dX10_impostors_32
  · replace hf := hf.2 i3 eni3
    have hn_4 := hOr2 i3 eni3
    rw [eni3] at hl
    try rw [eni3]
    have hl : lv_has ls 12 [(6, .ref (lay 8 i3)), (0, .ref (lay 10 0)), (1, .int a1), (2, .int a2), (3, .int a3), (4, .long a4)] := hl
    refine lv_iload_n hx hb dX10_impostors_12 rfl (lv_at hl 3 rfl) ?_
    refine x_runi hw (x_S (n := 1) (rest := []) C hw (eX10_isWriter hf) q392 q393 q44 q394 rfl rfl (by decide +kernel) ⟨Nat.le_of_ble_eq_true rfl, Nat.le_of_ble_eq_true rfl⟩ rfl hl.1 rfl (Nat.le_of_ble_eq_true rfl) dX10_impostors_13) (fun r6 σ5 H locs hf hw => ?_)
    have hzr6 := hf.2
    replace hf := hf.1
    try dsimp only at hf
    refine lv_if_eq (tgt := 31) hx hb dX10_impostors_16 (by decide) (fun c7 => ?_) (fun c7 => ?_)
    · replace hf := hf.1 c7
      refine lv_iconst (v := (-1)) hx hb dX10_impostors_31 (by decide) ?_
      exact x_iret C hret hw hf dX10_impostors_32
    · replace hf := hf.2 c7
      refine lv_iload_n hx hb dX10_impostors_19 rfl (lv_at hl 4 rfl) ?_
      refine lv_iconst (v := 1) hx hb dX10_impostors_20 (by decide) ?_
      refine lv_icmp_lt (tgt := 31) hx hb dX10_impostors_21 (by decide) (fun c8 => ?_) (fun c8 => ?_)
      · replace hf := hf.1 c8
        refine lv_iconst (v := (-1)) hx hb dX10_impostors_31 (by decide) ?_
        exact x_iret C hret hw hf dX10_impostors_32
      · replace hf := hf.2 c8
        refine lv_iload_n hx hb dX10_impostors_24 rfl (lv_at hl 4 rfl) ?_
        refine lv_sipush (v := 200) hx hb dX10_impostors_25 (by decide) ?_
        refine lv_icmp_le (tgt := 33) hx hb dX10_impostors_28 (by decide) (fun c9 => ?_) (fun c9 => ?_)
        · replace hf := hf.1 c9
          refine lv_aload_n hx hb dX10_impostors_33 rfl (lv_at hl 1 rfl) ?_
          have hm_10 : (2, 0) ∈ L := hw.2.2.2.1 10 0 hm0 2 (by decide) (by decide) rfl
          refine x_get (v := .ref (lay 2 0)) (j := 2) C hw hm0 rfl (by decide) (by decide) rfl q291 dX10_impostors_34 ?_
          refine x_getN (v := .int (sF σ5 2 0 2)) (j := 2) (host := "WhoseHand") C hw hm_10 rfl (by decide) (by decide) rfl q81 dX10_impostors_37 ?_
          refine lv_if_ne (tgt := 46) hx hb dX10_impostors_40 (by decide) (fun c11 => ?_) (fun c11 => ?_)
          · replace hf := hf.1 c11
            refine lv_aload hx hb dX10_impostors_46 (lv_at hl 0 rfl) ?_
            refine x_getN (v := .int (sF σ5 8 i3 5)) (j := 5) (host := "WhoseHand") C hw hn_4 rfl (by decide) (by decide) rfl q420 dX10_impostors_48 ?_
            refine lv_if_eq (tgt := 60) hx hb dX10_impostors_51 (by decide) (fun c12 => ?_) (fun c12 => ?_)
            · replace hf := hf.1 c12
              refine lv_aload_n hx hb dX10_impostors_60 rfl (lv_at hl 1 rfl) ?_
              refine lv_iload_n hx hb dX10_impostors_61 rfl (lv_at hl 2 rfl) ?_
              refine lv_aload hx hb dX10_impostors_62 (lv_at hl 0 rfl) ?_
              refine x_runv hw (x_V (n := 2) (rest := []) C hw hm0 (by decide) (eX10_readHandsFor hf hm0 hn_4) q666 q668 q10 q44 q669 rfl rfl (by decide +kernel) ⟨Nat.le_of_ble_eq_true rfl, Nat.le_of_ble_eq_true rfl⟩ rfl hl.1 rfl (Nat.le_of_ble_eq_true rfl) dX10_impostors_64) (fun σ13 H locs hf hw => ?_)
              try dsimp only at hf
              refine lv_aload_n hx hb dX10_impostors_67 rfl (lv_at hl 1 rfl) ?_
              have hm_14 : (1, 0) ∈ L := hw.2.2.2.1 10 0 hm0 3 (by decide) (by decide) rfl
              refine x_get (v := .ref (lay 1 0)) (j := 3) C hw hm0 rfl (by decide) (by decide) rfl q292 dX10_impostors_68 ?_
              refine lv_iload_n hx hb dX10_impostors_71 rfl (lv_at hl 3 rfl) ?_
              refine x_runi hw (x_V (n := 1) (rest := []) C hw hm_14 (by decide) (eX1_has hf hm_14) q633 q634 q635 q46 q636 rfl rfl (by decide +kernel) ⟨Nat.le_of_ble_eq_true rfl, Nat.le_of_ble_eq_true rfl⟩ rfl hl.1 rfl (Nat.le_of_ble_eq_true rfl) dX10_impostors_72) (fun r16 σ15 H locs hf hw => ?_)
              have hzr16 := hf.2
              replace hf := hf.1
              try dsimp only at hf
              refine lv_if_ne (tgt := 84) hx hb dX10_impostors_75 (by decide) (fun c17 => ?_) (fun c17 => ?_)
              · replace hf := hf.1 c17
                refine lv_iconst (v := 0) hx hb dX10_impostors_84 (by decide) ?_
                refine lv_istore (lv' := [(7, .int (0 : Int32)), (6, .ref (lay 8 i3)), (0, .ref (lay 10 0)), (1, .int a1), (2, .int a2), (3, .int a3), (4, .long a4)]) hx hb dX10_impostors_85 hl (by decide) rfl (fun ls hl => ?_)
                refine lv_lload hx hb dX10_impostors_87 (lv_at hl 6 rfl) ?_
                refine lv_lstore (lv' := [(8, .long a4), (7, .int (0 : Int32)), (6, .ref (lay 8 i3)), (0, .ref (lay 10 0)), (1, .int a1), (2, .int a2), (3, .int a3), (4, .long a4)]) hx hb dX10_impostors_89 hl (by decide) rfl (fun ls hl => ?_)
                refine lv_iconst (v := 0) hx hb dX10_impostors_91 (by decide) ?_
                refine lv_istore (lv' := [(10, .int (0 : Int32)), (8, .long a4), (7, .int (0 : Int32)), (6, .ref (lay 8 i3)), (0, .ref (lay 10 0)), (1, .int a1), (2, .int a2), (3, .int a3), (4, .long a4)]) hx hb dX10_impostors_92 hl (by decide) rfl (fun ls hl => ?_)
                refine eX10_impostors_l94 C hret hm0 ?_ N σ15 (0 : Int32) a4 (0 : Int32) _ _ _ hf hw (lv_sub hl [4, 6, 7, 2, 1, 0] rfl)
                · intro σ28 u156_7 H locs ls hf hw hl
                  refine lv_iload hx hb dX10_impostors_156 (lv_at hl 0 rfl) ?_
                  exact x_iret C hret hw hf dX10_impostors_158
              · replace hf := hf.2 c17
                refine lv_aload_n hx hb dX10_impostors_78 rfl (lv_at hl 1 rfl) ?_
                refine lv_iconst (v := 4) hx hb dX10_impostors_79 (by decide) ?_
                refine x_runi hw (x_V (n := 1) (rest := []) C hw hm0 (by decide) (eX10_found hf hm0) q340 q342 q1 q44 q343 rfl rfl (by decide +kernel) ⟨Nat.le_of_ble_eq_true rfl, Nat.le_of_ble_eq_true rfl⟩ rfl hl.1 rfl (Nat.le_of_ble_eq_true rfl) dX10_impostors_80) (fun r30 σ29 H locs hf hw => ?_)
                try dsimp only at hf
                exact x_iret C hret hw hf dX10_impostors_83
            · replace hf := hf.2 c12
              refine lv_aload_n hx hb dX10_impostors_54 rfl (lv_at hl 1 rfl) ?_
              refine lv_iconst (v := 1) hx hb dX10_impostors_55 (by decide) ?_
              refine x_runi hw (x_V (n := 1) (rest := []) C hw hm0 (by decide) (eX10_found hf hm0) q340 q342 q1 q44 q343 rfl rfl (by decide +kernel) ⟨Nat.le_of_ble_eq_true rfl, Nat.le_of_ble_eq_true rfl⟩ rfl hl.1 rfl (Nat.le_of_ble_eq_true rfl) dX10_impostors_56) (fun r32 σ31 H locs hf hw => ?_)
              try dsimp only at hf
              exact x_iret C hret hw hf dX10_impostors_59
          · replace hf := hf.2 c11
            refine lv_bipush (v := (-4)) hx hb dX10_impostors_43 (by decide) ?_
            exact x_iret C hret hw hf dX10_impostors_45
        · replace hf := hf.2 c9
          refine lv_iconst (v := (-1)) hx hb dX10_impostors_31 (by decide) ?_
          exact x_iret C hret hw hf dX10_impostors_32
