-- X5_bring
abbrev rmX5_bring : Room := { frames := 1, cells := 0, slots := 0, locals := 29 }
def fX5_bring (N : Nat) (σ : St) (a0 : Nat) (a1 : Nat) (a2 : Int32) (a3 : Int32) (a4 : Int32) (Q : St → Prop) : Prop := fX5_holds N σ a1 a2 a4 (fun (r2 : Int32) (σ1 : St) => ((r2 = 0 → Q σ1) ∧ (¬ r2 = 0 → fX5_holds N σ1 a0 a3 a4 (fun (r5 : Int32) (σ4 : St) => ((r5 = 0 → Q σ4) ∧ (¬ r5 = 0 → ((¬ a2 < 0 ∧ ¬ a3 < 0 ∧ ¬ a4 < 0 ∧ (a2).toNatClampNeg + (a4).toNatClampNeg ≤ 200 ∧ (a3).toNatClampNeg + (a4).toNatClampNeg ≤ 200 ∧ ∀ i, i < (a4).toNatClampNeg → fits .byte (.int (sA σ4 24 a1 ((a2).toNatClampNeg + i))) = true) ∧ ∀ σ9 : St, σ9 = setAll σ4 24 a0 (va_cpy (sA σ4 24 a1) (sA σ4 24 a0) (a2).toNatClampNeg (a3).toNatClampNeg (a4).toNatClampNeg) → Q σ9)))))))
set_option maxHeartbeats 4000000 in
set_option maxRecDepth 100000 in
theorem eX5_bring {l : Launch} {E : EC} {lay : Nat → Nat → Nat} {L : List (Nat × Nat)} {A : Nat → Prop} {N : Nat} {σ : St} {a0 : Nat} {a1 : Nat} {a2 : Int32} {a3 : Int32} {a4 : Int32} {Q : St → Prop} (hf : fX5_bring N σ a0 a1 a2 a3 a4 Q) (hm0 : (5, a0) ∈ L) (hm1 : (5, a1) ∈ L) : Met l yX5_bring (.code yX5_bring cX5_bring 5 (none) :: big) rmX5_bring (va_Pc [.ref (lay 5 a0), .ref (lay 5 a1), .int a2, .int a3, .int a4] (Bp E lay L A σ)) (va_Qv Q (Bd E lay L A) A) 0 0 A := by
  refine x_met (by decide +kernel) (Nat.le_of_ble_eq_true rfl) ?_
  intro p e s m args below meth c ls C hret hw hl
  have hx := C.1
  have hb := C.2.1
  have hl : lv_has ls 5 [(0, .ref (lay 5 a0)), (1, .ref (lay 5 a1)), (2, .int a2), (3, .int a3), (4, .int a4)] := hl
  unfold fX5_bring at hf
  refine lv_aload_n hx hb dX5_bring_0 rfl (lv_at hl 1 rfl) ?_
  refine lv_iload_n hx hb dX5_bring_1 rfl (lv_at hl 2 rfl) ?_
  refine lv_iload hx hb dX5_bring_2 (lv_at hl 4 rfl) ?_
  refine x_runi hw (x_V (n := 2) (rest := []) C hw hm1 (by decide) (eX5_holds hf hm1) q384 q357 q358 q52 q359 rfl rfl (by decide +kernel) ⟨Nat.le_of_ble_eq_true rfl, Nat.le_of_ble_eq_true rfl⟩ rfl hl.1 rfl (Nat.le_of_ble_eq_true rfl) dX5_bring_4) (fun r2 σ1 H locs hf hw => ?_)
  have hzr2 := hf.2
  replace hf := hf.1
  try dsimp only at hf
  refine lv_if_eq (tgt := 35) hx hb dX5_bring_7 (by decide) (fun c3 => ?_) (fun c3 => ?_)
  · replace hf := hf.1 c3
    exact x_vret C hret hw hf dX5_bring_35
  · replace hf := hf.2 c3
    refine lv_aload_n hx hb dX5_bring_10 rfl (lv_at hl 0 rfl) ?_
    refine lv_iload_n hx hb dX5_bring_11 rfl (lv_at hl 3 rfl) ?_
    refine lv_iload hx hb dX5_bring_12 (lv_at hl 4 rfl) ?_
    refine x_runi hw (x_V (n := 2) (rest := []) C hw hm0 (by decide) (eX5_holds hf hm0) q384 q357 q358 q52 q359 rfl rfl (by decide +kernel) ⟨Nat.le_of_ble_eq_true rfl, Nat.le_of_ble_eq_true rfl⟩ rfl hl.1 rfl (Nat.le_of_ble_eq_true rfl) dX5_bring_14) (fun r5 σ4 H locs hf hw => ?_)
    have hzr5 := hf.2
    replace hf := hf.1
    try dsimp only at hf
    refine lv_if_eq (tgt := 35) hx hb dX5_bring_17 (by decide) (fun c6 => ?_) (fun c6 => ?_)
    · replace hf := hf.1 c6
      exact x_vret C hret hw hf dX5_bring_35
    · replace hf := hf.2 c6
      refine lv_aload_n hx hb dX5_bring_20 rfl (lv_at hl 1 rfl) ?_
      have hm_7 : (24, a1) ∈ L := hw.2.2.2.1 5 a1 hm1 0 (by decide) (by decide) rfl
      refine x_get (v := .ref (lay 24 a1)) (j := 0) C hw hm1 rfl (by decide) (by decide) rfl q281 dX5_bring_21 ?_
      refine lv_iload_n hx hb dX5_bring_24 rfl (lv_at hl 2 rfl) ?_
      refine lv_aload_n hx hb dX5_bring_25 rfl (lv_at hl 0 rfl) ?_
      have hm_8 : (24, a0) ∈ L := hw.2.2.2.1 5 a0 hm0 0 (by decide) (by decide) rfl
      refine x_get (v := .ref (lay 24 a0)) (j := 0) C hw hm0 rfl (by decide) (by decide) rfl q281 dX5_bring_26 ?_
      refine lv_iload_n hx hb dX5_bring_29 rfl (lv_at hl 3 rfl) ?_
      refine lv_iload hx hb dX5_bring_30 (lv_at hl 4 rfl) ?_
      refine x_copyB C hw hm_7 hm_8 hl.1 q385 q387 q386 q54 hf.1 (Nat.le_of_ble_eq_true rfl) (Nat.le_of_ble_eq_true rfl) dX5_bring_32 (fun σ9 H locs eσ9 hw => ?_)
      replace hf := hf.2 σ9 eσ9
      exact x_vret C hret hw hf dX5_bring_35
-- X10_copy
abbrev rmX10_copy : Room := { frames := 2, cells := 0, slots := 0, locals := 53 }
def fX10_copy_b53 (N : Nat) (a1 : Int32) (a2 : Int32) (a3 : Int32) (a4 : Int32) (a5 : Int32) (Q : Int32 → St → Prop) (σ : St) : Prop := fX10_found N σ (1 : Int32) (fun (r14 : Int32) (σ13 : St) => Q r14 σ13)
def fX10_copy_b82 (N : Nat) (a1 : Int32) (a2 : Int32) (a3 : Int32) (a4 : Int32) (a5 : Int32) (Q : Int32 → St → Prop) (σ : St) : Prop := fX10_found N σ (2 : Int32) (fun (r22 : Int32) (σ21 : St) => Q r22 σ21)
set_option maxHeartbeats 4000000 in
set_option maxRecDepth 100000 in
theorem eX10_copy_b53 {p : Program} {l : Launch} {e : Env} {s : State} {m : MethodId} {args : Array Value} {below : List Frame} {meth : Method} {c : Code} {E : EC} {lay : Nat → Nat → Nat} {L : List (Nat × Nat)} {A : Nat → Prop} (C : Cx p s m args c meth yX10_copy.cls cX10_copy 8 E A) (hret : meth.sig.returnType = some .int) {N : Nat} {a1 : Int32} {a2 : Int32} {a3 : Int32} {a4 : Int32} {a5 : Int32} {Q : Int32 → St → Prop} (hm0 : (10, 0) ∈ L) (σ : St) (H : Heap) (locs : List Loc) (ls : Array Slot) (hf : fX10_copy_b53 N a1 a2 a3 a4 a5 Q σ) (hw : Wo E lay L A s σ H locs) (hl : lv_has ls 8 [(0, .ref (lay 10 0))]) : W p l e rmX10_copy s m args below meth c H locs 0 0 (MQ below (va_Qi Q (Bd E lay L A) A) args s 0 0 A) (F0 m 53 ls []) := by
  have hx := C.1
  have hb := C.2.1
  unfold fX10_copy_b53 at hf
  refine lv_aload_n hx hb dX10_copy_53 rfl (lv_at hl 0 rfl) ?_
  refine lv_iconst (v := 1) hx hb dX10_copy_54 (by decide) ?_
  refine x_runi hw (x_V (n := 1) (rest := []) C hw hm0 (by decide) (eX10_found hf hm0) q340 q342 q1 q44 q343 rfl rfl (by decide +kernel) ⟨Nat.le_of_ble_eq_true rfl, Nat.le_of_ble_eq_true rfl⟩ rfl hl.1 rfl (Nat.le_of_ble_eq_true rfl) dX10_copy_55) (fun r14 σ13 H locs hf hw => ?_)
  try dsimp only at hf
  exact x_iret C hret hw hf dX10_copy_58
set_option maxHeartbeats 4000000 in
set_option maxRecDepth 100000 in
theorem eX10_copy_b82 {p : Program} {l : Launch} {e : Env} {s : State} {m : MethodId} {args : Array Value} {below : List Frame} {meth : Method} {c : Code} {E : EC} {lay : Nat → Nat → Nat} {L : List (Nat × Nat)} {A : Nat → Prop} (C : Cx p s m args c meth yX10_copy.cls cX10_copy 8 E A) (hret : meth.sig.returnType = some .int) {N : Nat} {a1 : Int32} {a2 : Int32} {a3 : Int32} {a4 : Int32} {a5 : Int32} {Q : Int32 → St → Prop} (hm0 : (10, 0) ∈ L) (σ : St) (H : Heap) (locs : List Loc) (ls : Array Slot) (hf : fX10_copy_b82 N a1 a2 a3 a4 a5 Q σ) (hw : Wo E lay L A s σ H locs) (hl : lv_has ls 8 [(0, .ref (lay 10 0))]) : W p l e rmX10_copy s m args below meth c H locs 0 0 (MQ below (va_Qi Q (Bd E lay L A) A) args s 0 0 A) (F0 m 82 ls []) := by
  have hx := C.1
  have hb := C.2.1
  unfold fX10_copy_b82 at hf
  refine lv_aload_n hx hb dX10_copy_82 rfl (lv_at hl 0 rfl) ?_
  refine lv_iconst (v := 2) hx hb dX10_copy_83 (by decide) ?_
  refine x_runi hw (x_V (n := 1) (rest := []) C hw hm0 (by decide) (eX10_found hf hm0) q340 q342 q1 q44 q343 rfl rfl (by decide +kernel) ⟨Nat.le_of_ble_eq_true rfl, Nat.le_of_ble_eq_true rfl⟩ rfl hl.1 rfl (Nat.le_of_ble_eq_true rfl) dX10_copy_84) (fun r22 σ21 H locs hf hw => ?_)
  try dsimp only at hf
  exact x_iret C hret hw hf dX10_copy_87
def fX10_copy (N : Nat) (σ : St) (a1 : Int32) (a2 : Int32) (a3 : Int32) (a4 : Int32) (a5 : Int32) (Q : Int32 → St → Prop) : Prop := fX10_sheetAt N σ a1 (fun (r2 : Option Nat) (σ1 : St) => fX10_sheetAt N σ1 a3 (fun (r4 : Option Nat) (σ3 : St) => ((r2 = none → Q (-1 : Int32) σ3) ∧ (∀ i5, r2 = some i5 → ((r4 = none → Q (-1 : Int32) σ3) ∧ (∀ i7, r4 = some i7 → ((0 ≤ a5 → fX5_isMissing N σ3 i5 (fun (r11 : Int32) (σ10 : St) => ((¬ r11 = 0 → fX10_copy_b53 N a1 a2 a3 a4 a5 Q σ10) ∧ (r11 = 0 → fX5_isMissing N σ10 i7 (fun (r16 : Int32) (σ15 : St) => ((r16 = 0 → fX5_holds N σ15 i5 a2 a5 (fun (r19 : Int32) (σ18 : St) => ((r19 = 0 → fX10_copy_b82 N a1 a2 a3 a4 a5 Q σ18) ∧ (¬ r19 = 0 → fX5_holds N σ18 i7 a4 a5 (fun (r24 : Int32) (σ23 : St) => ((¬ r24 = 0 → fX5_bring N σ23 i7 i5 a2 a4 a5 (fun (σ26 : St) => Q (1 : Int32) σ26)) ∧ (r24 = 0 → fX10_copy_b82 N a1 a2 a3 a4 a5 Q σ23))))))) ∧ (¬ r16 = 0 → fX10_copy_b53 N a1 a2 a3 a4 a5 Q σ15))))))) ∧ (¬ 0 ≤ a5 → fX10_found N σ3 (5 : Int32) (fun (r28 : Int32) (σ27 : St) => Q r28 σ27)))))))))
set_option maxHeartbeats 4000000 in
set_option maxRecDepth 100000 in
theorem eX10_copy {l : Launch} {E : EC} {lay : Nat → Nat → Nat} {L : List (Nat × Nat)} {A : Nat → Prop} {N : Nat} {σ : St} {a1 : Int32} {a2 : Int32} {a3 : Int32} {a4 : Int32} {a5 : Int32} {Q : Int32 → St → Prop} (hf : fX10_copy N σ a1 a2 a3 a4 a5 Q) (hm0 : (10, 0) ∈ L) : Met l yX10_copy (.code yX10_copy cX10_copy 8 (some .int) :: big) rmX10_copy (va_Pc [.ref (lay 10 0), .int a1, .int a2, .int a3, .int a4, .int a5] (Bp E lay L A σ)) (va_Qi Q (Bd E lay L A) A) 0 0 A := by
  refine x_met (by decide +kernel) (Nat.le_of_ble_eq_true rfl) ?_
  intro p e s m args below meth c ls C hret hw hl
  have hx := C.1
  have hb := C.2.1
  have hl : lv_has ls 8 [(0, .ref (lay 10 0)), (1, .int a1), (2, .int a2), (3, .int a3), (4, .int a4), (5, .int a5)] := hl
  unfold fX10_copy at hf
  refine lv_aload_n hx hb dX10_copy_0 rfl (lv_at hl 0 rfl) ?_
  refine lv_iload_n hx hb dX10_copy_1 rfl (lv_at hl 1 rfl) ?_
  refine x_runq hw (x_V (n := 1) (rest := []) C hw hm0 (by decide) (eX10_sheetAt hf hm0) q336 q338 q0 q44 q339 rfl rfl (by decide +kernel) ⟨Nat.le_of_ble_eq_true rfl, Nat.le_of_ble_eq_true rfl⟩ rfl hl.1 rfl (Nat.le_of_ble_eq_true rfl) dX10_copy_2) (fun r2 σ1 H locs hf hOr2 hw => ?_)
  try dsimp only at hf
  refine x_astore (lv' := [(6, rf lay 5 r2), (0, .ref (lay 10 0)), (1, .int a1), (2, .int a2), (3, .int a3), (4, .int a4), (5, .int a5)]) hx hb dX10_copy_5 hl (by decide) rfl (fun ls hl => ?_)
  refine lv_aload_n hx hb dX10_copy_7 rfl (lv_at hl 1 rfl) ?_
  refine lv_iload_n hx hb dX10_copy_8 rfl (lv_at hl 4 rfl) ?_
  refine x_runq hw (x_V (n := 1) (rest := []) C hw hm0 (by decide) (eX10_sheetAt hf hm0) q336 q338 q0 q44 q339 rfl rfl (by decide +kernel) ⟨Nat.le_of_ble_eq_true rfl, Nat.le_of_ble_eq_true rfl⟩ rfl hl.1 rfl (Nat.le_of_ble_eq_true rfl) dX10_copy_9) (fun r4 σ3 H locs hf hOr4 hw => ?_)
  try dsimp only at hf
  refine x_astore (lv' := [(7, rf lay 5 r4), (6, rf lay 5 r2), (0, .ref (lay 10 0)), (1, .int a1), (2, .int a2), (3, .int a3), (4, .int a4), (5, .int a5)]) hx hb dX10_copy_12 hl (by decide) (by simp [rf_cat]) (fun ls hl => ?_)
  refine x_aload hx hb dX10_copy_14 (lv_at hl 1 rfl) ?_
  refine x_ifnull (r := r2) (tgt := 24) hx hb dX10_copy_16 (by decide) (fun eni5 => ?_) (fun i5 eni5 => ?_)
  · replace hf := hf.1 eni5
    refine lv_iconst (v := (-1)) hx hb dX10_copy_24 (by decide) ?_
    exact x_iret C hret hw hf dX10_copy_25
  · replace hf := hf.2 i5 eni5
    have hn_6 := hOr2 i5 eni5
    rw [eni5] at hl
    try rw [eni5]
    have hl : lv_has ls 8 [(7, rf lay 5 r4), (6, .ref (lay 5 i5)), (0, .ref (lay 10 0)), (1, .int a1), (2, .int a2), (3, .int a3), (4, .int a4), (5, .int a5)] := hl
    refine x_aload hx hb dX10_copy_19 (lv_at hl 0 rfl) ?_
    refine x_ifnonnull (r := r4) (tgt := 26) hx hb dX10_copy_21 (by decide) (fun eni7 => ?_) (fun i7 eni7 => ?_)
    · replace hf := hf.1 eni7
      refine lv_iconst (v := (-1)) hx hb dX10_copy_24 (by decide) ?_
      exact x_iret C hret hw hf dX10_copy_25
    · replace hf := hf.2 i7 eni7
      have hn_8 := hOr4 i7 eni7
      rw [eni7] at hl
      try rw [eni7]
      have hl : lv_has ls 8 [(7, .ref (lay 5 i7)), (6, .ref (lay 5 i5)), (0, .ref (lay 10 0)), (1, .int a1), (2, .int a2), (3, .int a3), (4, .int a4), (5, .int a5)] := hl
      refine lv_iload hx hb dX10_copy_26 (lv_at hl 7 rfl) ?_
      refine lv_if_ge (tgt := 37) hx hb dX10_copy_28 (by decide) (fun c9 => ?_) (fun c9 => ?_)
      · replace hf := hf.1 c9
        refine lv_aload hx hb dX10_copy_37 (lv_at hl 1 rfl) ?_
        refine x_runi hw (x_V (n := 0) (rest := []) C hw hn_6 (by decide) (eX5_isMissing hf hn_6) q352 q353 q354 q52 q355 rfl rfl (by decide +kernel) ⟨Nat.le_of_ble_eq_true rfl, Nat.le_of_ble_eq_true rfl⟩ rfl hl.1 rfl (Nat.le_of_ble_eq_true rfl) dX10_copy_39) (fun r11 σ10 H locs hf hw => ?_)
        have hzr11 := hf.2
        replace hf := hf.1
        try dsimp only at hf
        refine lv_if_ne (tgt := 53) hx hb dX10_copy_42 (by decide) (fun c12 => ?_) (fun c12 => ?_)
        · replace hf := hf.1 c12
          exact eX10_copy_b53 C hret hm0 σ10 _ _ _ hf hw (lv_sub hl [2] rfl)
        · replace hf := hf.2 c12
          refine lv_aload hx hb dX10_copy_45 (lv_at hl 0 rfl) ?_
          refine x_runi hw (x_V (n := 0) (rest := []) C hw hn_8 (by decide) (eX5_isMissing hf hn_8) q352 q353 q354 q52 q355 rfl rfl (by decide +kernel) ⟨Nat.le_of_ble_eq_true rfl, Nat.le_of_ble_eq_true rfl⟩ rfl hl.1 rfl (Nat.le_of_ble_eq_true rfl) dX10_copy_47) (fun r16 σ15 H locs hf hw => ?_)
          have hzr16 := hf.2
          replace hf := hf.1
          try dsimp only at hf
          refine lv_if_eq (tgt := 59) hx hb dX10_copy_50 (by decide) (fun c17 => ?_) (fun c17 => ?_)
          · replace hf := hf.1 c17
            refine lv_aload hx hb dX10_copy_59 (lv_at hl 1 rfl) ?_
            refine lv_iload_n hx hb dX10_copy_61 rfl (lv_at hl 4 rfl) ?_
            refine lv_iload hx hb dX10_copy_62 (lv_at hl 7 rfl) ?_
            refine x_runi hw (x_V (n := 2) (rest := []) C hw hn_6 (by decide) (eX5_holds hf hn_6) q356 q357 q358 q52 q359 rfl rfl (by decide +kernel) ⟨Nat.le_of_ble_eq_true rfl, Nat.le_of_ble_eq_true rfl⟩ rfl hl.1 rfl (Nat.le_of_ble_eq_true rfl) dX10_copy_64) (fun r19 σ18 H locs hf hw => ?_)
            have hzr19 := hf.2
            replace hf := hf.1
            try dsimp only at hf
            refine lv_if_eq (tgt := 82) hx hb dX10_copy_67 (by decide) (fun c20 => ?_) (fun c20 => ?_)
            · replace hf := hf.1 c20
              exact eX10_copy_b82 C hret hm0 σ18 _ _ _ hf hw (lv_sub hl [2] rfl)
            · replace hf := hf.2 c20
              refine lv_aload hx hb dX10_copy_70 (lv_at hl 0 rfl) ?_
              refine lv_iload hx hb dX10_copy_72 (lv_at hl 6 rfl) ?_
              refine lv_iload hx hb dX10_copy_74 (lv_at hl 7 rfl) ?_
              refine x_runi hw (x_V (n := 2) (rest := []) C hw hn_8 (by decide) (eX5_holds hf hn_8) q356 q357 q358 q52 q359 rfl rfl (by decide +kernel) ⟨Nat.le_of_ble_eq_true rfl, Nat.le_of_ble_eq_true rfl⟩ rfl hl.1 rfl (Nat.le_of_ble_eq_true rfl) dX10_copy_76) (fun r24 σ23 H locs hf hw => ?_)
              have hzr24 := hf.2
              replace hf := hf.1
              try dsimp only at hf
              refine lv_if_ne (tgt := 88) hx hb dX10_copy_79 (by decide) (fun c25 => ?_) (fun c25 => ?_)
              · replace hf := hf.1 c25
                refine lv_aload hx hb dX10_copy_88 (lv_at hl 0 rfl) ?_
                refine lv_aload hx hb dX10_copy_90 (lv_at hl 1 rfl) ?_
                refine lv_iload_n hx hb dX10_copy_92 rfl (lv_at hl 4 rfl) ?_
                refine lv_iload hx hb dX10_copy_93 (lv_at hl 6 rfl) ?_
                refine lv_iload hx hb dX10_copy_95 (lv_at hl 7 rfl) ?_
                refine x_runv hw (x_V (n := 4) (rest := []) C hw hn_8 (by decide) (eX5_bring hf hn_8 hn_6) q380 q381 q382 q52 q383 rfl rfl (by decide +kernel) ⟨Nat.le_of_ble_eq_true rfl, Nat.le_of_ble_eq_true rfl⟩ rfl hl.1 rfl (Nat.le_of_ble_eq_true rfl) dX10_copy_97) (fun σ26 H locs hf hw => ?_)
                try dsimp only at hf
                refine lv_iconst (v := 1) hx hb dX10_copy_100 (by decide) ?_
                exact x_iret C hret hw hf dX10_copy_101
              · replace hf := hf.2 c25
                exact eX10_copy_b82 C hret hm0 σ23 _ _ _ hf hw (lv_sub hl [2] rfl)
          · replace hf := hf.2 c17
            exact eX10_copy_b53 C hret hm0 σ15 _ _ _ hf hw (lv_sub hl [2] rfl)
      · replace hf := hf.2 c9
        refine lv_aload_n hx hb dX10_copy_31 rfl (lv_at hl 2 rfl) ?_
        refine lv_iconst (v := 5) hx hb dX10_copy_32 (by decide) ?_
        refine x_runi hw (x_V (n := 1) (rest := []) C hw hm0 (by decide) (eX10_found hf hm0) q340 q342 q1 q44 q343 rfl rfl (by decide +kernel) ⟨Nat.le_of_ble_eq_true rfl, Nat.le_of_ble_eq_true rfl⟩ rfl hl.1 rfl (Nat.le_of_ble_eq_true rfl) dX10_copy_33) (fun r28 σ27 H locs hf hw => ?_)
        try dsimp only at hf
        exact x_iret C hret hw hf dX10_copy_36
