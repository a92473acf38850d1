-- X10_part
abbrev rmX10_part : Room := { frames := 6, cells := 0, slots := 0, locals := 148 }
def fX10_part_b114 (N : Nat) (a1 : Int32) (a2 : Int32) (a3 : Int32) (a4 : Int32) (a5 : Int32) (Q : Int32 → St → Prop) (σ : St) : Prop := fX10_found N σ (4 : Int32) (fun (r26 : Int32) (σ25 : St) => Q r26 σ25)
set_option maxHeartbeats 4000000 in
set_option maxRecDepth 100000 in
theorem eX10_part_b114 {p : Program} {l : Launch} {e : Env} {s : State} {m : MethodId} {args : Array Value} {below : List Frame} {meth : Method} {c : Code} {E : EC} {lay : Nat → Nat → Nat} {L : List (Nat × Nat)} {A : Nat → Prop} (C : Cx p s m args c meth yX10_part.cls cX10_part 8 E A) (hret : meth.sig.returnType = some .int) {N : Nat} {a1 : Int32} {a2 : Int32} {a3 : Int32} {a4 : Int32} {a5 : Int32} {Q : Int32 → St → Prop} (hm0 : (10, 0) ∈ L) (σ : St) (H : Heap) (locs : List Loc) (ls : Array Slot) (hf : fX10_part_b114 N a1 a2 a3 a4 a5 Q σ) (hw : Wo E lay L A s σ H locs) (hl : lv_has ls 8 [(0, .ref (lay 10 0))]) : W p l e rmX10_part s m args below meth c H locs 0 0 (MQ below (va_Qi Q (Bd E lay L A) A) args s 0 0 A) (F0 m 114 ls []) := by
  have hx := C.1
  have hb := C.2.1
  unfold fX10_part_b114 at hf
  refine lv_aload_n hx hb dX10_part_114 rfl (lv_at hl 0 rfl) ?_
  refine lv_iconst (v := 4) hx hb dX10_part_115 (by decide) ?_
  refine x_runi hw (x_V (n := 1) (rest := []) C hw hm0 (by decide) (eX10_found hf hm0) q340 q342 q1 q44 q343 rfl rfl (by decide +kernel) ⟨Nat.le_of_ble_eq_true rfl, Nat.le_of_ble_eq_true rfl⟩ rfl hl.1 rfl (Nat.le_of_ble_eq_true rfl) dX10_part_116) (fun r26 σ25 H locs hf hw => ?_)
  try dsimp only at hf
  exact x_iret C hret hw hf dX10_part_119
def fX10_part (N : Nat) (σ : St) (a1 : Int32) (a2 : Int32) (a3 : Int32) (a4 : Int32) (a5 : Int32) (Q : Int32 → St → Prop) : Prop := fX10_textAt N σ a1 (fun (r2 : Option Nat) (σ1 : St) => ((r2 = none → Q (-1 : Int32) σ1) ∧ (∀ i3, r2 = some i3 → ((a2 < (1 : Int32) → Q (-1 : Int32) σ1) ∧ (¬ a2 < (1 : Int32) → (((60 : Int32) < a2 → Q (-1 : Int32) σ1) ∧ (¬ (60 : Int32) < a2 → ((a5 < 0 → Q (-1 : Int32) σ1) ∧ (¬ a5 < 0 → ((a5 ≤ (10000000 : Int32) → fX10_isWriter N σ1 a3 (fun (r10 : Int32) (σ9 : St) => ((r10 = 0 → Q (-1 : Int32) σ9) ∧ (¬ r10 = 0 → fX10_isWriter N σ9 a4 (fun (r13 : Int32) (σ12 : St) => ((r13 = 0 → Q (-1 : Int32) σ12) ∧ (¬ r13 = 0 → ((¬ a3 = a4 → (((sF σ12 8 i3 5) = 0 → fX1_readWithout N σ12 a1 (fun (σ20 : St) => fX1_has N σ20 a3 (fun (r23 : Int32) (σ22 : St) => ((r23 = 0 → fX10_part_b114 N a1 a2 a3 a4 a5 Q σ22) ∧ (¬ r23 = 0 → fX1_has N σ22 a4 (fun (r29 : Int32) (σ28 : St) => ((¬ r29 = 0 → fX3_priceWindows N σ28 i3 a2 a3 a4 (fun (σ35 : St) => fX3_priceTails N σ35 a5 (fun (σ37 : St) => fX3_choose N σ37 a3 a4 a5 (fun (r40 : Int32) (σ39 : St) => fX3_leastPrice N σ39 (fun (r43 : Int64) (σ42 : St) => ∀ σ44 : St, σ44 = setJ σ42 10 0 13 r43 → Q r40 σ44))))) ∧ (r29 = 0 → fX10_part_b114 N a1 a2 a3 a4 a5 Q σ28)))))))) ∧ (¬ (sF σ12 8 i3 5) = 0 → fX10_found N σ12 (1 : Int32) (fun (r46 : Int32) (σ45 : St) => Q r46 σ45)))) ∧ (a3 = a4 → Q (-1 : Int32) σ12))))))))) ∧ (¬ a5 ≤ (10000000 : Int32) → Q (-1 : Int32) σ1)))))))))))
set_option maxHeartbeats 4000000 in
set_option maxRecDepth 100000 in
theorem eX10_part {l : Launch} {E : EC} {lay : Nat → Nat → Nat} {L : List (Nat × Nat)} {A : Nat → Prop} {N : Nat} {σ : St} {a1 : Int32} {a2 : Int32} {a3 : Int32} {a4 : Int32} {a5 : Int32} {Q : Int32 → St → Prop} (hf : fX10_part N σ a1 a2 a3 a4 a5 Q) (hm0 : (10, 0) ∈ L) : Met l yX10_part (.code yX10_part cX10_part 8 (some .int) :: big) rmX10_part (va_Pc [.ref (lay 10 0), .int a1, .int a2, .int a3, .int a4, .int a5] (Bp E lay L A σ)) (va_Qi Q (Bd E lay L A) A) 0 0 A := by
  refine x_met (by decide +kernel) (Nat.le_of_ble_eq_true rfl) ?_
  intro p e s m args below meth c ls C hret hw hl
  have hx := C.1
  have hb := C.2.1
  have hl : lv_has ls 8 [(0, .ref (lay 10 0)), (1, .int a1), (2, .int a2), (3, .int a3), (4, .int a4), (5, .int a5)] := hl
  unfold fX10_part at hf
  refine lv_aload_n hx hb dX10_part_0 rfl (lv_at hl 0 rfl) ?_
  refine lv_iload_n hx hb dX10_part_1 rfl (lv_at hl 1 rfl) ?_
  refine x_runq hw (x_V (n := 1) (rest := []) C hw hm0 (by decide) (eX10_textAt hf hm0) q513 q515 q9 q44 q516 rfl rfl (by decide +kernel) ⟨Nat.le_of_ble_eq_true rfl, Nat.le_of_ble_eq_true rfl⟩ rfl hl.1 rfl (Nat.le_of_ble_eq_true rfl) dX10_part_2) (fun r2 σ1 H locs hf hOr2 hw => ?_)
  try dsimp only at hf
  refine x_astore (lv' := [(6, rf lay 8 r2), (0, .ref (lay 10 0)), (1, .int a1), (2, .int a2), (3, .int a3), (4, .int a4), (5, .int a5)]) hx hb dX10_part_5 hl (by decide) rfl (fun ls hl => ?_)
  refine x_aload hx hb dX10_part_7 (lv_at hl 0 rfl) ?_
  refine x_ifnull (r := r2) (tgt := 36) hx hb dX10_part_9 (by decide) (fun eni3 => ?_) (fun i3 eni3 => ?_)
  · replace hf := hf.1 eni3
    refine lv_iconst (v := (-1)) hx hb dX10_part_36 (by decide) ?_
    exact x_iret C hret hw hf dX10_part_37
  · replace hf := hf.2 i3 eni3
    have hn_4 := hOr2 i3 eni3
    rw [eni3] at hl
    try rw [eni3]
    have hl : lv_has ls 8 [(6, .ref (lay 8 i3)), (0, .ref (lay 10 0)), (1, .int a1), (2, .int a2), (3, .int a3), (4, .int a4), (5, .int a5)] := hl
    refine lv_iload_n hx hb dX10_part_12 rfl (lv_at hl 3 rfl) ?_
    refine lv_iconst (v := 1) hx hb dX10_part_13 (by decide) ?_
    refine lv_icmp_lt (tgt := 36) hx hb dX10_part_14 (by decide) (fun c5 => ?_) (fun c5 => ?_)
    · replace hf := hf.1 c5
      refine lv_iconst (v := (-1)) hx hb dX10_part_36 (by decide) ?_
      exact x_iret C hret hw hf dX10_part_37
    · replace hf := hf.2 c5
      refine lv_iload_n hx hb dX10_part_17 rfl (lv_at hl 3 rfl) ?_
      refine lv_bipush (v := 60) hx hb dX10_part_18 (by decide) ?_
      refine lv_icmp_gt (tgt := 36) hx hb dX10_part_20 (by decide) (fun c6 => ?_) (fun c6 => ?_)
      · replace hf := hf.1 c6
        refine lv_iconst (v := (-1)) hx hb dX10_part_36 (by decide) ?_
        exact x_iret C hret hw hf dX10_part_37
      · replace hf := hf.2 c6
        refine lv_iload hx hb dX10_part_23 (lv_at hl 6 rfl) ?_
        refine lv_if_lt (tgt := 36) hx hb dX10_part_25 (by decide) (fun c7 => ?_) (fun c7 => ?_)
        · replace hf := hf.1 c7
          refine lv_iconst (v := (-1)) hx hb dX10_part_36 (by decide) ?_
          exact x_iret C hret hw hf dX10_part_37
        · replace hf := hf.2 c7
          refine lv_iload hx hb dX10_part_28 (lv_at hl 6 rfl) ?_
          refine lv_ldcw (v := 10000000) hx hb C.2.2.2.1 (C.2.2.2.2.1 _ q723) dX10_part_30 ?_
          refine lv_icmp_le (tgt := 38) hx hb dX10_part_33 (by decide) (fun c8 => ?_) (fun c8 => ?_)
          · replace hf := hf.1 c8
            refine lv_iload_n hx hb dX10_part_38 rfl (lv_at hl 4 rfl) ?_
            refine x_runi hw (x_S (n := 1) (rest := []) C hw (eX10_isWriter hf) q392 q393 q44 q394 rfl rfl (by decide +kernel) ⟨Nat.le_of_ble_eq_true rfl, Nat.le_of_ble_eq_true rfl⟩ rfl hl.1 rfl (Nat.le_of_ble_eq_true rfl) dX10_part_39) (fun r10 σ9 H locs hf hw => ?_)
            have hzr10 := hf.2
            replace hf := hf.1
            try dsimp only at hf
            refine lv_if_eq (tgt := 59) hx hb dX10_part_42 (by decide) (fun c11 => ?_) (fun c11 => ?_)
            · replace hf := hf.1 c11
              refine lv_iconst (v := (-1)) hx hb dX10_part_59 (by decide) ?_
              exact x_iret C hret hw hf dX10_part_60
            · replace hf := hf.2 c11
              refine lv_iload hx hb dX10_part_45 (lv_at hl 5 rfl) ?_
              refine x_runi hw (x_S (n := 1) (rest := []) C hw (eX10_isWriter hf) q392 q393 q44 q394 rfl rfl (by decide +kernel) ⟨Nat.le_of_ble_eq_true rfl, Nat.le_of_ble_eq_true rfl⟩ rfl hl.1 rfl (Nat.le_of_ble_eq_true rfl) dX10_part_47) (fun r13 σ12 H locs hf hw => ?_)
              have hzr13 := hf.2
              replace hf := hf.1
              try dsimp only at hf
              refine lv_if_eq (tgt := 59) hx hb dX10_part_50 (by decide) (fun c14 => ?_) (fun c14 => ?_)
              · replace hf := hf.1 c14
                refine lv_iconst (v := (-1)) hx hb dX10_part_59 (by decide) ?_
                exact x_iret C hret hw hf dX10_part_60
              · replace hf := hf.2 c14
                refine lv_iload_n hx hb dX10_part_53 rfl (lv_at hl 4 rfl) ?_
                refine lv_iload hx hb dX10_part_54 (lv_at hl 5 rfl) ?_
                refine lv_icmp_ne (tgt := 61) hx hb dX10_part_56 (by decide) (fun c15 => ?_) (fun c15 => ?_)
                · replace hf := hf.1 c15
                  refine lv_aload hx hb dX10_part_61 (lv_at hl 0 rfl) ?_
                  refine x_getN (v := .int (sF σ12 8 i3 5)) (j := 5) (host := "WhoseHand") C hw hn_4 rfl (by decide) (by decide) rfl q420 dX10_part_63 ?_
                  refine lv_if_eq (tgt := 75) hx hb dX10_part_66 (by decide) (fun c16 => ?_) (fun c16 => ?_)
                  · replace hf := hf.1 c16
                    refine lv_aload_n hx hb dX10_part_75 rfl (lv_at hl 1 rfl) ?_
                    have hm_17 : (1, 0) ∈ L := hw.2.2.2.1 10 0 hm0 3 (by decide) (by decide) rfl
                    refine x_get (v := .ref (lay 1 0)) (j := 3) C hw hm0 rfl (by decide) (by decide) rfl q292 dX10_part_76 ?_
                    refine lv_iload_n hx hb dX10_part_79 rfl (lv_at hl 2 rfl) ?_
                    refine lv_aload_n hx hb dX10_part_80 rfl (lv_at hl 1 rfl) ?_
                    have hm_18 : (21, 0) ∈ L := hw.2.2.2.1 10 0 hm0 1 (by decide) (by decide) rfl
                    refine x_get (v := .ref (lay 21 0)) (j := 1) C hw hm0 rfl (by decide) (by decide) rfl q290 dX10_part_81 ?_
                    refine lv_aload_n hx hb dX10_part_84 rfl (lv_at hl 1 rfl) ?_
                    have hm_19 : (2, 0) ∈ L := hw.2.2.2.1 10 0 hm0 2 (by decide) (by decide) rfl
                    refine x_get (v := .ref (lay 2 0)) (j := 2) C hw hm0 rfl (by decide) (by decide) rfl q291 dX10_part_85 ?_
                    refine x_runv hw (x_V (n := 3) (rest := []) C hw hm_17 (by decide) (eX1_readWithout hf hm_17 hm_18 hm_19) q607 q608 q609 q46 q610 rfl rfl (by decide +kernel) ⟨Nat.le_of_ble_eq_true rfl, Nat.le_of_ble_eq_true rfl⟩ rfl hl.1 rfl (Nat.le_of_ble_eq_true rfl) dX10_part_88) (fun σ20 H locs hf hw => ?_)
                    try dsimp only at hf
                    refine lv_aload_n hx hb dX10_part_91 rfl (lv_at hl 1 rfl) ?_
                    have hm_21 : (1, 0) ∈ L := hw.2.2.2.1 10 0 hm0 3 (by decide) (by decide) rfl
                    refine x_get (v := .ref (lay 1 0)) (j := 3) C hw hm0 rfl (by decide) (by decide) rfl q292 dX10_part_92 ?_
                    refine lv_iload_n hx hb dX10_part_95 rfl (lv_at hl 4 rfl) ?_
                    refine x_runi hw (x_V (n := 1) (rest := []) C hw hm_21 (by decide) (eX1_has hf hm_21) q633 q634 q635 q46 q636 rfl rfl (by decide +kernel) ⟨Nat.le_of_ble_eq_true rfl, Nat.le_of_ble_eq_true rfl⟩ rfl hl.1 rfl (Nat.le_of_ble_eq_true rfl) dX10_part_96) (fun r23 σ22 H locs hf hw => ?_)
                    have hzr23 := hf.2
                    replace hf := hf.1
                    try dsimp only at hf
                    refine lv_if_eq (tgt := 114) hx hb dX10_part_99 (by decide) (fun c24 => ?_) (fun c24 => ?_)
                    · replace hf := hf.1 c24
                      exact eX10_part_b114 C hret hm0 σ22 _ _ _ hf hw (lv_sub hl [1] rfl)
                    · replace hf := hf.2 c24
                      refine lv_aload_n hx hb dX10_part_102 rfl (lv_at hl 1 rfl) ?_
                      have hm_27 : (1, 0) ∈ L := hw.2.2.2.1 10 0 hm0 3 (by decide) (by decide) rfl
                      refine x_get (v := .ref (lay 1 0)) (j := 3) C hw hm0 rfl (by decide) (by decide) rfl q292 dX10_part_103 ?_
                      refine lv_iload hx hb dX10_part_106 (lv_at hl 5 rfl) ?_
                      refine x_runi hw (x_V (n := 1) (rest := []) C hw hm_27 (by decide) (eX1_has hf hm_27) q633 q634 q635 q46 q636 rfl rfl (by decide +kernel) ⟨Nat.le_of_ble_eq_true rfl, Nat.le_of_ble_eq_true rfl⟩ rfl hl.1 rfl (Nat.le_of_ble_eq_true rfl) dX10_part_108) (fun r29 σ28 H locs hf hw => ?_)
                      have hzr29 := hf.2
                      replace hf := hf.1
                      try dsimp only at hf
                      refine lv_if_ne (tgt := 120) hx hb dX10_part_111 (by decide) (fun c30 => ?_) (fun c30 => ?_)
                      · replace hf := hf.1 c30
                        refine lv_aload_n hx hb dX10_part_120 rfl (lv_at hl 1 rfl) ?_
                        have hm_31 : (3, 0) ∈ L := hw.2.2.2.1 10 0 hm0 4 (by decide) (by decide) rfl
                        refine x_get (v := .ref (lay 3 0)) (j := 4) C hw hm0 rfl (by decide) (by decide) rfl q293 dX10_part_121 ?_
                        refine lv_aload hx hb dX10_part_124 (lv_at hl 0 rfl) ?_
                        have hm_32 : (4, i3) ∈ L := hw.2.2.2.1 8 i3 hn_4 3 (by decide) (by decide) rfl
                        refine x_getN (v := .ref (lay 4 i3)) (j := 3) (host := "WhoseHand") C hw hn_4 rfl (by decide) (by decide) rfl q412 dX10_part_126 ?_
                        refine lv_iload_n hx hb dX10_part_129 rfl (lv_at hl 3 rfl) ?_
                        refine lv_iload_n hx hb dX10_part_130 rfl (lv_at hl 4 rfl) ?_
                        refine lv_iload hx hb dX10_part_131 (lv_at hl 5 rfl) ?_
                        refine lv_aload_n hx hb dX10_part_133 rfl (lv_at hl 1 rfl) ?_
                        have hm_33 : (1, 0) ∈ L := hw.2.2.2.1 10 0 hm0 3 (by decide) (by decide) rfl
                        refine x_get (v := .ref (lay 1 0)) (j := 3) C hw hm0 rfl (by decide) (by decide) rfl q292 dX10_part_134 ?_
                        refine lv_aload_n hx hb dX10_part_137 rfl (lv_at hl 1 rfl) ?_
                        have hm_34 : (2, 0) ∈ L := hw.2.2.2.1 10 0 hm0 2 (by decide) (by decide) rfl
                        refine x_get (v := .ref (lay 2 0)) (j := 2) C hw hm0 rfl (by decide) (by decide) rfl q291 dX10_part_138 ?_
                        refine x_runv hw (x_V (n := 6) (rest := []) C hw hm_31 (by decide) (eX3_priceWindows hf hm_31 hm_32 hm_33 hm_34) q724 q725 q726 q48 q727 rfl rfl (by decide +kernel) ⟨Nat.le_of_ble_eq_true rfl, Nat.le_of_ble_eq_true rfl⟩ rfl hl.1 rfl (Nat.le_of_ble_eq_true rfl) dX10_part_141) (fun σ35 H locs hf hw => ?_)
                        try dsimp only at hf
                        refine lv_aload_n hx hb dX10_part_144 rfl (lv_at hl 1 rfl) ?_
                        have hm_36 : (3, 0) ∈ L := hw.2.2.2.1 10 0 hm0 4 (by decide) (by decide) rfl
                        refine x_get (v := .ref (lay 3 0)) (j := 4) C hw hm0 rfl (by decide) (by decide) rfl q293 dX10_part_145 ?_
                        refine lv_iload hx hb dX10_part_148 (lv_at hl 6 rfl) ?_
                        refine x_runv hw (x_V (n := 1) (rest := []) C hw hm_36 (by decide) (eX3_priceTails hf hm_36) q741 q742 q743 q48 q744 rfl rfl (by decide +kernel) ⟨Nat.le_of_ble_eq_true rfl, Nat.le_of_ble_eq_true rfl⟩ rfl hl.1 rfl (Nat.le_of_ble_eq_true rfl) dX10_part_150) (fun σ37 H locs hf hw => ?_)
                        try dsimp only at hf
                        refine lv_aload_n hx hb dX10_part_153 rfl (lv_at hl 1 rfl) ?_
                        have hm_38 : (3, 0) ∈ L := hw.2.2.2.1 10 0 hm0 4 (by decide) (by decide) rfl
                        refine x_get (v := .ref (lay 3 0)) (j := 4) C hw hm0 rfl (by decide) (by decide) rfl q293 dX10_part_154 ?_
                        refine lv_iload_n hx hb dX10_part_157 rfl (lv_at hl 4 rfl) ?_
                        refine lv_iload hx hb dX10_part_158 (lv_at hl 5 rfl) ?_
                        refine lv_iload hx hb dX10_part_160 (lv_at hl 6 rfl) ?_
                        refine x_runi hw (x_V (n := 3) (rest := []) C hw hm_38 (by decide) (eX3_choose hf hm_38) q748 q749 q750 q48 q751 rfl rfl (by decide +kernel) ⟨Nat.le_of_ble_eq_true rfl, Nat.le_of_ble_eq_true rfl⟩ rfl hl.1 rfl (Nat.le_of_ble_eq_true rfl) dX10_part_162) (fun r40 σ39 H locs hf hw => ?_)
                        try dsimp only at hf
                        refine lv_istore (lv' := [(7, .int r40), (6, .ref (lay 8 i3)), (0, .ref (lay 10 0)), (1, .int a1), (2, .int a2), (3, .int a3), (4, .int a4), (5, .int a5)]) hx hb dX10_part_165 hl (by decide) rfl (fun ls hl => ?_)
                        refine lv_aload_n hx hb dX10_part_167 rfl (lv_at hl 2 rfl) ?_
                        refine lv_aload_n hx hb dX10_part_168 rfl (lv_at hl 2 rfl) ?_
                        have hm_41 : (3, 0) ∈ L := hw.2.2.2.1 10 0 hm0 4 (by decide) (by decide) rfl
                        refine x_get (v := .ref (lay 3 0)) (j := 4) C hw hm0 rfl (by decide) (by decide) rfl q293 dX10_part_169 ?_
                        refine x_runl hw (x_V (n := 0) (rest := [.ref (lay 10 0)]) C hw hm_41 (by decide) (eX3_leastPrice hf hm_41) q752 q753 q754 q48 q755 rfl rfl (by decide +kernel) ⟨Nat.le_of_ble_eq_true rfl, Nat.le_of_ble_eq_true rfl⟩ rfl hl.1 rfl (Nat.le_of_ble_eq_true rfl) dX10_part_172) (fun r43 σ42 H locs hf hw => ?_)
                        try dsimp only at hf
                        refine x_putJ (j := 13) C hw hm0 rfl (by decide) (by decide) rfl rfl (by decide +kernel) q302 dX10_part_175 (fun σ44 H locs eσ44 hw => ?_)
                        replace hf := hf σ44 eσ44
                        refine lv_iload hx hb dX10_part_178 (lv_at hl 0 rfl) ?_
                        exact x_iret C hret hw hf dX10_part_180
                      · replace hf := hf.2 c30
                        exact eX10_part_b114 C hret hm0 σ28 _ _ _ hf hw (lv_sub hl [1] rfl)
                  · replace hf := hf.2 c16
                    refine lv_aload_n hx hb dX10_part_69 rfl (lv_at hl 1 rfl) ?_
                    refine lv_iconst (v := 1) hx hb dX10_part_70 (by decide) ?_
                    refine x_runi hw (x_V (n := 1) (rest := []) C hw hm0 (by decide) (eX10_found hf hm0) q340 q342 q1 q44 q343 rfl rfl (by decide +kernel) ⟨Nat.le_of_ble_eq_true rfl, Nat.le_of_ble_eq_true rfl⟩ rfl hl.1 rfl (Nat.le_of_ble_eq_true rfl) dX10_part_71) (fun r46 σ45 H locs hf hw => ?_)
                    try dsimp only at hf
                    exact x_iret C hret hw hf dX10_part_74
                · replace hf := hf.2 c15
                  refine lv_iconst (v := (-1)) hx hb dX10_part_59 (by decide) ?_
                  exact x_iret C hret hw hf dX10_part_60
          · replace hf := hf.2 c8
            refine lv_iconst (v := (-1)) hx hb dX10_part_36 (by decide) ?_
            exact x_iret C hret hw hf dX10_part_37
-- X10_window
abbrev rmX10_window : Room := { frames := 1, cells := 0, slots := 0, locals := 21 }
def fX10_window (N : Nat) (σ : St) (a1 : Int32) (Q : Int32 → St → Prop) : Prop := fX3_ownerOf N σ a1 (fun (r3 : Int32) (σ2 : St) => Q r3 σ2)
set_option maxHeartbeats 4000000 in
set_option maxRecDepth 100000 in
theorem eX10_window {l : Launch} {E : EC} {lay : Nat → Nat → Nat} {L : List (Nat × Nat)} {A : Nat → Prop} {N : Nat} {σ : St} {a1 : Int32} {Q : Int32 → St → Prop} (hf : fX10_window N σ a1 Q) (hm0 : (10, 0) ∈ L) : Met l yX10_window (.code yX10_window cX10_window 2 (some .int) :: big) rmX10_window (va_Pc [.ref (lay 10 0), .int a1] (Bp E lay L A σ)) (va_Qi Q (Bd E lay L A) A) 0 0 A := by
  refine x_met (by decide +kernel) (Nat.le_of_ble_eq_true rfl) ?_
  intro p e s m args below meth c ls C hret hw hl
  have hx := C.1
  have hb := C.2.1
  have hl : lv_has ls 2 [(0, .ref (lay 10 0)), (1, .int a1)] := hl
  unfold fX10_window at hf
  refine lv_aload_n hx hb dX10_window_0 rfl (lv_at hl 0 rfl) ?_
  have hm_1 : (3, 0) ∈ L := hw.2.2.2.1 10 0 hm0 4 (by decide) (by decide) rfl
  refine x_get (v := .ref (lay 3 0)) (j := 4) C hw hm0 rfl (by decide) (by decide) rfl q293 dX10_window_1 ?_
  refine lv_iload_n hx hb dX10_window_4 rfl (lv_at hl 1 rfl) ?_
  refine x_runi hw (x_V (n := 1) (rest := []) C hw hm_1 (by decide) (eX3_ownerOf hf hm_1) q760 q761 q762 q48 q763 rfl rfl (by decide +kernel) ⟨Nat.le_of_ble_eq_true rfl, Nat.le_of_ble_eq_true rfl⟩ rfl hl.1 rfl (Nat.le_of_ble_eq_true rfl) dX10_window_5) (fun r3 σ2 H locs hf hw => ?_)
  try dsimp only at hf
  exact x_iret C hret hw hf dX10_window_8
-- X10_tree
abbrev rmX10_tree : Room := { frames := 5, cells := 0, slots := 0, locals := 113 }
def fX10_tree (N : Nat) (σ : St) (Q : Int32 → St → Prop) : Prop := fX9_grow N σ (fun (r5 : Int32) (σ4 : St) => Q r5 σ4)
set_option maxHeartbeats 4000000 in
set_option maxRecDepth 100000 in
theorem eX10_tree {l : Launch} {E : EC} {lay : Nat → Nat → Nat} {L : List (Nat × Nat)} {A : Nat → Prop} {N : Nat} {σ : St} {Q : Int32 → St → Prop} (hf : fX10_tree N σ Q) (hm0 : (10, 0) ∈ L) : Met l yX10_tree (.code yX10_tree cX10_tree 1 (some .int) :: big) rmX10_tree (va_Pc [.ref (lay 10 0)] (Bp E lay L A σ)) (va_Qi Q (Bd E lay L A) A) 0 0 A := by
  refine x_met (by decide +kernel) (Nat.le_of_ble_eq_true rfl) ?_
  intro p e s m args below meth c ls C hret hw hl
  have hx := C.1
  have hb := C.2.1
  have hl : lv_has ls 1 [(0, .ref (lay 10 0))] := hl
  unfold fX10_tree at hf
  refine lv_aload_n hx hb dX10_tree_0 rfl (lv_at hl 0 rfl) ?_
  have hm_1 : (9, 0) ∈ L := hw.2.2.2.1 10 0 hm0 5 (by decide) (by decide) rfl
  refine x_get (v := .ref (lay 9 0)) (j := 5) C hw hm0 rfl (by decide) (by decide) rfl q294 dX10_tree_1 ?_
  refine lv_aload_n hx hb dX10_tree_4 rfl (lv_at hl 0 rfl) ?_
  have hm_2 : (21, 0) ∈ L := hw.2.2.2.1 10 0 hm0 1 (by decide) (by decide) rfl
  refine x_get (v := .ref (lay 21 0)) (j := 1) C hw hm0 rfl (by decide) (by decide) rfl q290 dX10_tree_5 ?_
  refine lv_aload_n hx hb dX10_tree_8 rfl (lv_at hl 0 rfl) ?_
  have hm_3 : (2, 0) ∈ L := hw.2.2.2.1 10 0 hm0 2 (by decide) (by decide) rfl
  refine x_get (v := .ref (lay 2 0)) (j := 2) C hw hm0 rfl (by decide) (by decide) rfl q291 dX10_tree_9 ?_
  refine x_runi hw (x_V (n := 2) (rest := []) C hw hm_1 (by decide) (eX9_grow hf hm_1 hm_2 hm_3) q768 q769 q770 q49 q771 rfl rfl (by decide +kernel) ⟨Nat.le_of_ble_eq_true rfl, Nat.le_of_ble_eq_true rfl⟩ rfl hl.1 rfl (Nat.le_of_ble_eq_true rfl) dX10_tree_12) (fun r5 σ4 H locs hf hw => ?_)
  try dsimp only at hf
  exact x_iret C hret hw hf dX10_tree_15
-- X10_join
abbrev rmX10_join : Room := { frames := 1, cells := 0, slots := 0, locals := 22 }
def fX10_join (N : Nat) (σ : St) (a1 : Int32) (a2 : Int32) (Q : Int32 → St → Prop) : Prop := ((a2 < 0 → Q (-1 : Int32) σ) ∧ (¬ a2 < 0 → ((a2 < (3 : Int32) → fX9_tell N σ a1 a2 (fun (r5 : Int32) (σ4 : St) => Q r5 σ4)) ∧ (¬ a2 < (3 : Int32) → Q (-1 : Int32) σ))))
set_option maxHeartbeats 4000000 in
set_option maxRecDepth 100000 in
theorem eX10_join {l : Launch} {E : EC} {lay : Nat → Nat → Nat} {L : List (Nat × Nat)} {A : Nat → Prop} {N : Nat} {σ : St} {a1 : Int32} {a2 : Int32} {Q : Int32 → St → Prop} (hf : fX10_join N σ a1 a2 Q) (hm0 : (10, 0) ∈ L) : Met l yX10_join (.code yX10_join cX10_join 3 (some .int) :: big) rmX10_join (va_Pc [.ref (lay 10 0), .int a1, .int a2] (Bp E lay L A σ)) (va_Qi Q (Bd E lay L A) A) 0 0 A := by
  refine x_met (by decide +kernel) (Nat.le_of_ble_eq_true rfl) ?_
  intro p e s m args below meth c ls C hret hw hl
  have hx := C.1
  have hb := C.2.1
  have hl : lv_has ls 3 [(0, .ref (lay 10 0)), (1, .int a1), (2, .int a2)] := hl
  unfold fX10_join at hf
  refine lv_iload_n hx hb dX10_join_0 rfl (lv_at hl 2 rfl) ?_
  refine lv_if_lt (tgt := 9) hx hb dX10_join_1 (by decide) (fun c1 => ?_) (fun c1 => ?_)
  · replace hf := hf.1 c1
    refine lv_iconst (v := (-1)) hx hb dX10_join_9 (by decide) ?_
    exact x_iret C hret hw hf dX10_join_10
  · replace hf := hf.2 c1
    refine lv_iload_n hx hb dX10_join_4 rfl (lv_at hl 2 rfl) ?_
    refine lv_iconst (v := 3) hx hb dX10_join_5 (by decide) ?_
    refine lv_icmp_lt (tgt := 11) hx hb dX10_join_6 (by decide) (fun c2 => ?_) (fun c2 => ?_)
    · replace hf := hf.1 c2
      refine lv_aload_n hx hb dX10_join_11 rfl (lv_at hl 0 rfl) ?_
      have hm_3 : (9, 0) ∈ L := hw.2.2.2.1 10 0 hm0 5 (by decide) (by decide) rfl
      refine x_get (v := .ref (lay 9 0)) (j := 5) C hw hm0 rfl (by decide) (by decide) rfl q294 dX10_join_12 ?_
      refine lv_iload_n hx hb dX10_join_15 rfl (lv_at hl 1 rfl) ?_
      refine lv_iload_n hx hb dX10_join_16 rfl (lv_at hl 2 rfl) ?_
      refine x_runi hw (x_V (n := 2) (rest := []) C hw hm_3 (by decide) (eX9_tell hf hm_3) q792 q793 q794 q49 q795 rfl rfl (by decide +kernel) ⟨Nat.le_of_ble_eq_true rfl, Nat.le_of_ble_eq_true rfl⟩ rfl hl.1 rfl (Nat.le_of_ble_eq_true rfl) dX10_join_17) (fun r5 σ4 H locs hf hw => ?_)
      try dsimp only at hf
      exact x_iret C hret hw hf dX10_join_20
    · replace hf := hf.2 c2
      refine lv_iconst (v := (-1)) hx hb dX10_join_9 (by decide) ?_
      exact x_iret C hret hw hf dX10_join_10
-- X10_addToShuffles
abbrev rmX10_addToShuffles : Room := { frames := 3, cells := 0, slots := 0, locals := 61 }
def fX10_addToShuffles_b73_5 (N : Nat) (a1 : Int32) (a2 : Int32) (Q : Int32 → St → Prop) (Kh : St → Int32 → Int32 → Prop) (Kx79 : St → Int32 → Prop) (σ : St) (v3 : Int32) (v4 : Int32) : Prop := Kh σ v3 (v4 + (1 : Int32))
def fX10_addToShuffles_l5 (N : Nat) (a1 : Int32) (a2 : Int32) (Q : Int32 → St → Prop) (Kx79 : St → Int32 → Prop) : Nat → St → Int32 → Int32 → Prop
  | 0, _, _, _ => False
  | n + 1, σ, v3, v4 => (((14 : Int32) ≤ v4 → Kx79 σ v3) ∧ (¬ (14 : Int32) ≤ v4 → (vp_in v4 14 ∧ (((sR σ 21 0 (v4).toNatClampNeg) = none → fX10_addToShuffles_b73_5 N a1 a2 Q (fun (σ : St) (w3 : Int32) (w4 : Int32) => fX10_addToShuffles_l5 N a1 a2 Q Kx79 n σ w3 w4) Kx79 σ v3 v4) ∧ (∀ i5, (sR σ 21 0 (v4).toNatClampNeg) = some i5 → fX8_isBy N σ i5 a2 (fun (r8 : Int32) (σ7 : St) => ((¬ r8 = 0 → fX7_countOf N σ7 i5 a1 (fun (r13 : Int32) (σ12 : St) => fX2_wholeOf N σ12 i5 a1 (fun (r17 : Int32) (σ16 : St) => fX6_add N σ16 r13 r17 (fun (σ18 : St) => fX10_addToShuffles_b73_5 N a1 a2 Q (fun (σ : St) (w3 : Int32) (w4 : Int32) => fX10_addToShuffles_l5 N a1 a2 Q Kx79 n σ w3 w4) Kx79 σ18 (v3 + (1 : Int32)) v4)))) ∧ (r8 = 0 → fX10_addToShuffles_b73_5 N a1 a2 Q (fun (σ : St) (w3 : Int32) (w4 : Int32) => fX10_addToShuffles_l5 N a1 a2 Q Kx79 n σ w3 w4) Kx79 σ7 v3 v4))))))))
set_option maxHeartbeats 4000000 in
set_option maxRecDepth 100000 in
theorem eX10_addToShuffles_b73_5 {p : Program} {l : Launch} {e : Env} {s : State} {m : MethodId} {args : Array Value} {below : List Frame} {meth : Method} {c : Code} {E : EC} {lay : Nat → Nat → Nat} {L : List (Nat × Nat)} {A : Nat → Prop} (C : Cx p s m args c meth yX10_addToShuffles.cls cX10_addToShuffles 6 E A) (hret : meth.sig.returnType = some .int) {N : Nat} {a1 : Int32} {a2 : Int32} {Q : Int32 → St → Prop} {Kh : St → Int32 → Int32 → Prop} {Kx79 : St → Int32 → Prop} (hm0 : (10, 0) ∈ L) (hKh : ∀ (σ : St) (w3 : Int32) (w4 : Int32) (H : Heap) (locs : List Loc) (ls : Array Slot), Kh σ w3 w4 → Wo E lay L A s σ H locs → lv_has ls 6 [(0, .ref (lay 10 0)), (1, .int a1), (2, .int a2), (3, .int w3), (4, .int w4)] → W p l e rmX10_addToShuffles s m args below meth c H locs 0 0 (MQ below (va_Qi Q (Bd E lay L A) A) args s 0 0 A) (F0 m 5 ls [])) (hK79 : ∀ (σ : St) (w3 : Int32) (H : Heap) (locs : List Loc) (ls : Array Slot), Kx79 σ w3 → Wo E lay L A s σ H locs → lv_has ls 6 [(3, .int w3)] → W p l e rmX10_addToShuffles s m args below meth c H locs 0 0 (MQ below (va_Qi Q (Bd E lay L A) A) args s 0 0 A) (F0 m 79 ls [])) (σ : St) (v3 : Int32) (v4 : Int32) (H : Heap) (locs : List Loc) (ls : Array Slot) (hf : fX10_addToShuffles_b73_5 N a1 a2 Q Kh Kx79 σ v3 v4) (hw : Wo E lay L A s σ H locs) (hl : lv_has ls 6 [(0, .ref (lay 10 0)), (1, .int a1), (2, .int a2), (3, .int v3), (4, .int v4)]) : W p l e rmX10_addToShuffles s m args below meth c H locs 0 0 (MQ below (va_Qi Q (Bd E lay L A) A) args s 0 0 A) (F0 m 73 ls []) := by
  have hx := C.1
  have hb := C.2.1
  unfold fX10_addToShuffles_b73_5 at hf
  refine lv_iinc (v := (v4 + (1 : Int32))) (lv' := [(4, .int (v4 + (1 : Int32))), (0, .ref (lay 10 0)), (1, .int a1), (2, .int a2), (3, .int v3)]) hx hb dX10_addToShuffles_73 hl (k := 4) rfl (by rfl) (by decide) rfl (fun ls hl => ?_)
  refine lv_goto (tgt := 5) hx hb dX10_addToShuffles_76 (by decide) ?_
  exact hKh σ v3 (v4 + (1 : Int32)) _ _ _ hf hw (lv_sub hl [1, 2, 3, 4, 0] rfl)
set_option maxHeartbeats 4000000 in
set_option maxRecDepth 100000 in
theorem eX10_addToShuffles_l5 {p : Program} {l : Launch} {e : Env} {s : State} {m : MethodId} {args : Array Value} {below : List Frame} {meth : Method} {c : Code} {E : EC} {lay : Nat → Nat → Nat} {L : List (Nat × Nat)} {A : Nat → Prop} (C : Cx p s m args c meth yX10_addToShuffles.cls cX10_addToShuffles 6 E A) (hret : meth.sig.returnType = some .int) {N : Nat} {a1 : Int32} {a2 : Int32} {Q : Int32 → St → Prop} {Kx79 : St → Int32 → Prop} (hm0 : (10, 0) ∈ L) (hK79 : ∀ (σ : St) (w3 : Int32) (H : Heap) (locs : List Loc) (ls : Array Slot), Kx79 σ w3 → Wo E lay L A s σ H locs → lv_has ls 6 [(3, .int w3)] → W p l e rmX10_addToShuffles s m args below meth c H locs 0 0 (MQ below (va_Qi Q (Bd E lay L A) A) args s 0 0 A) (F0 m 79 ls [])) : ∀ (n : Nat) (σ : St) (v3 : Int32) (v4 : Int32) (H : Heap) (locs : List Loc) (ls : Array Slot), fX10_addToShuffles_l5 N a1 a2 Q Kx79 n σ v3 v4 → Wo E lay L A s σ H locs → lv_has ls 6 [(0, .ref (lay 10 0)), (1, .int a1), (2, .int a2), (3, .int v3), (4, .int v4)] → W p l e rmX10_addToShuffles s m args below meth c H locs 0 0 (MQ below (va_Qi Q (Bd E lay L A) A) args s 0 0 A) (F0 m 5 ls []) := by
  have hx := C.1
  have hb := C.2.1
  intro n
  induction n with
  | zero => intro σ v3 v4 H locs ls hf; exact hf.elim
  | succ n ih =>
    intro σ v3 v4 H locs ls hf hw hl
    rw [fX10_addToShuffles_l5] at hf
    refine lv_iload hx hb dX10_addToShuffles_5 (lv_at hl 4 rfl) ?_
    refine lv_aload_n hx hb dX10_addToShuffles_7 rfl (lv_at hl 0 rfl) ?_
    have hm_1 : (21, 0) ∈ L := hw.2.2.2.1 10 0 hm0 1 (by decide) (by decide) rfl
    refine x_get (v := .ref (lay 21 0)) (j := 1) C hw hm0 rfl (by decide) (by decide) rfl q290 dX10_addToShuffles_8 ?_
    refine x_alen (v := 14) C hw hm_1 (by decide) (by decide) (by decide) dX10_addToShuffles_11 ?_
    refine lv_icmp_ge (tgt := 79) hx hb dX10_addToShuffles_12 (by decide) (fun c2 => ?_) (fun c2 => ?_)
    · replace hf := hf.1 c2
      exact hK79 σ v3 _ _ _ hf hw (lv_sub hl [3] rfl)
    · replace hf := hf.2 c2
      refine lv_aload_n hx hb dX10_addToShuffles_15 rfl (lv_at hl 0 rfl) ?_
      have hm_3 : (21, 0) ∈ L := hw.2.2.2.1 10 0 hm0 1 (by decide) (by decide) rfl
      refine x_get (v := .ref (lay 21 0)) (j := 1) C hw hm0 rfl (by decide) (by decide) rfl q290 dX10_addToShuffles_16 ?_
      refine lv_iload hx hb dX10_addToShuffles_19 (lv_at hl 4 rfl) ?_
      have hO_4 : ∀ i, (sR σ 21 0 (v4).toNatClampNeg) = some i → (8, i) ∈ L := fun i h => hw.2.2.2.2 21 _ _ i h
      refine x_aald (t := 5) (T := 8) C hw hm_3 (by decide) rfl (by decide) rfl hf.1 rfl dX10_addToShuffles_21 ?_
      replace hf := hf.2
      refine x_astore (lv' := [(5, rf lay 8 (sR σ 21 0 (v4).toNatClampNeg)), (0, .ref (lay 10 0)), (1, .int a1), (2, .int a2), (3, .int v3), (4, .int v4)]) hx hb dX10_addToShuffles_22 hl (by decide) rfl (fun ls hl => ?_)
      refine x_aload hx hb dX10_addToShuffles_24 (lv_at hl 0 rfl) ?_
      refine x_ifnull (r := (sR σ 21 0 (v4).toNatClampNeg)) (tgt := 73) hx hb dX10_addToShuffles_26 (by decide) (fun eni5 => ?_) (fun i5 eni5 => ?_)
      · replace hf := hf.1 eni5
        exact eX10_addToShuffles_b73_5 C hret hm0 ih hK79 σ v3 v4 _ _ _ hf hw (lv_sub hl [1, 2, 3, 4, 5] rfl)
      · replace hf := hf.2 i5 eni5
        have hn_6 := hO_4 i5 eni5
        rw [eni5] at hl
        try rw [eni5]
        have hl : lv_has ls 6 [(5, .ref (lay 8 i5)), (0, .ref (lay 10 0)), (1, .int a1), (2, .int a2), (3, .int v3), (4, .int v4)] := hl
        refine lv_aload hx hb dX10_addToShuffles_29 (lv_at hl 0 rfl) ?_
        refine lv_iload_n hx hb dX10_addToShuffles_31 rfl (lv_at hl 3 rfl) ?_
        refine x_runi hw (x_V (n := 1) (rest := []) C hw hn_6 (by decide) (eX8_isBy hf hn_6) q708 q616 q617 q55 q618 rfl rfl (by decide +kernel) ⟨Nat.le_of_ble_eq_true rfl, Nat.le_of_ble_eq_true rfl⟩ rfl hl.1 rfl (Nat.le_of_ble_eq_true rfl) dX10_addToShuffles_32) (fun r8 σ7 H locs hf hw => ?_)
        have hzr8 := hf.2
        replace hf := hf.1
        try dsimp only at hf
        refine lv_if_ne (tgt := 41) hx hb dX10_addToShuffles_35 (by decide) (fun c9 => ?_) (fun c9 => ?_)
        · replace hf := hf.1 c9
          refine lv_aload_n hx hb dX10_addToShuffles_41 rfl (lv_at hl 1 rfl) ?_
          have hm_10 : (6, 0) ∈ L := hw.2.2.2.1 10 0 hm0 6 (by decide) (by decide) rfl
          refine x_get (v := .ref (lay 6 0)) (j := 6) C hw hm0 rfl (by decide) (by decide) rfl q295 dX10_addToShuffles_42 ?_
          refine lv_aload hx hb dX10_addToShuffles_45 (lv_at hl 0 rfl) ?_
          have hm_11 : (7, i5) ∈ L := hw.2.2.2.1 8 i5 hn_6 4 (by decide) (by decide) rfl
          refine x_getN (v := .ref (lay 7 i5)) (j := 4) (host := "WhoseHand") C hw hn_6 rfl (by decide) (by decide) rfl q417 dX10_addToShuffles_47 ?_
          refine lv_iload_n hx hb dX10_addToShuffles_50 rfl (lv_at hl 2 rfl) ?_
          refine x_runi hw (x_V (n := 1) (rest := [.ref (lay 6 0)]) C hw hm_11 (by decide) (eX7_countOf hf hm_11) q583 q584 q585 q47 q586 rfl rfl (by decide +kernel) ⟨Nat.le_of_ble_eq_true rfl, Nat.le_of_ble_eq_true rfl⟩ rfl hl.1 rfl (Nat.le_of_ble_eq_true rfl) dX10_addToShuffles_51) (fun r13 σ12 H locs hf hw => ?_)
          try dsimp only at hf
          refine lv_aload_n hx hb dX10_addToShuffles_54 rfl (lv_at hl 1 rfl) ?_
          have hm_14 : (2, 0) ∈ L := hw.2.2.2.1 10 0 hm0 2 (by decide) (by decide) rfl
          refine x_get (v := .ref (lay 2 0)) (j := 2) C hw hm0 rfl (by decide) (by decide) rfl q291 dX10_addToShuffles_55 ?_
          refine lv_aload hx hb dX10_addToShuffles_58 (lv_at hl 0 rfl) ?_
          have hm_15 : (7, i5) ∈ L := hw.2.2.2.1 8 i5 hn_6 4 (by decide) (by decide) rfl
          refine x_getN (v := .ref (lay 7 i5)) (j := 4) (host := "WhoseHand") C hw hn_6 rfl (by decide) (by decide) rfl q417 dX10_addToShuffles_60 ?_
          refine lv_iload_n hx hb dX10_addToShuffles_63 rfl (lv_at hl 2 rfl) ?_
          refine x_runi hw (x_V (n := 2) (rest := [.int r13, .ref (lay 6 0)]) C hw hm_14 (by decide) (eX2_wholeOf hf hm_14 hm_15) q808 q597 q598 q45 q599 rfl rfl (by decide +kernel) ⟨Nat.le_of_ble_eq_true rfl, Nat.le_of_ble_eq_true rfl⟩ rfl hl.1 rfl (Nat.le_of_ble_eq_true rfl) dX10_addToShuffles_64) (fun r17 σ16 H locs hf hw => ?_)
          try dsimp only at hf
          refine x_runv hw (x_V (n := 2) (rest := []) C hw hm_10 (by decide) (eX6_add hf hm_10) q809 q810 q811 q50 q812 rfl rfl (by decide +kernel) ⟨Nat.le_of_ble_eq_true rfl, Nat.le_of_ble_eq_true rfl⟩ rfl hl.1 rfl (Nat.le_of_ble_eq_true rfl) dX10_addToShuffles_67) (fun σ18 H locs hf hw => ?_)
          try dsimp only at hf
          refine lv_iinc (v := (v3 + (1 : Int32))) (lv' := [(3, .int (v3 + (1 : Int32))), (5, .ref (lay 8 i5)), (0, .ref (lay 10 0)), (1, .int a1), (2, .int a2), (4, .int v4)]) hx hb dX10_addToShuffles_70 hl (k := 4) rfl (by rfl) (by decide) rfl (fun ls hl => ?_)
          exact eX10_addToShuffles_b73_5 C hret hm0 ih hK79 σ18 (v3 + (1 : Int32)) v4 _ _ _ hf hw (lv_sub hl [2, 3, 4, 0, 5] rfl)
        · replace hf := hf.2 c9
          refine lv_goto (tgt := 73) hx hb dX10_addToShuffles_38 (by decide) ?_
          exact eX10_addToShuffles_b73_5 C hret hm0 ih hK79 σ7 v3 v4 _ _ _ hf hw (lv_sub hl [1, 2, 3, 4, 5] rfl)
def fX10_addToShuffles (N : Nat) (σ : St) (a1 : Int32) (a2 : Int32) (Q : Int32 → St → Prop) : Prop := fX10_addToShuffles_l5 N a1 a2 Q (fun (σ19 : St) (u79_3 : Int32) => Q u79_3 σ19) N σ (0 : Int32) (0 : Int32)
set_option maxHeartbeats 4000000 in
set_option maxRecDepth 100000 in
theorem eX10_addToShuffles {l : Launch} {E : EC} {lay : Nat → Nat → Nat} {L : List (Nat × Nat)} {A : Nat → Prop} {N : Nat} {σ : St} {a1 : Int32} {a2 : Int32} {Q : Int32 → St → Prop} (hf : fX10_addToShuffles N σ a1 a2 Q) (hm0 : (10, 0) ∈ L) : Met l yX10_addToShuffles (.code yX10_addToShuffles cX10_addToShuffles 6 (some .int) :: big) rmX10_addToShuffles (va_Pc [.ref (lay 10 0), .int a1, .int a2] (Bp E lay L A σ)) (va_Qi Q (Bd E lay L A) A) 0 0 A := by
  refine x_met (by decide +kernel) (Nat.le_of_ble_eq_true rfl) ?_
  intro p e s m args below meth c ls C hret hw hl
  have hx := C.1
  have hb := C.2.1
  have hl : lv_has ls 6 [(0, .ref (lay 10 0)), (1, .int a1), (2, .int a2)] := hl
  unfold fX10_addToShuffles at hf
  refine lv_iconst (v := 0) hx hb dX10_addToShuffles_0 (by decide) ?_
  refine lv_istore_n (lv' := [(3, .int (0 : Int32)), (0, .ref (lay 10 0)), (1, .int a1), (2, .int a2)]) hx hb dX10_addToShuffles_1 rfl hl (by decide) rfl (fun ls hl => ?_)
  refine lv_iconst (v := 0) hx hb dX10_addToShuffles_2 (by decide) ?_
  refine lv_istore (lv' := [(4, .int (0 : Int32)), (3, .int (0 : Int32)), (0, .ref (lay 10 0)), (1, .int a1), (2, .int a2)]) hx hb dX10_addToShuffles_3 hl (by decide) rfl (fun ls hl => ?_)
  refine eX10_addToShuffles_l5 C hret hm0 ?_ N σ (0 : Int32) (0 : Int32) _ _ _ hf hw (lv_sub hl [2, 3, 4, 1, 0] rfl)
  · intro σ19 u79_3 H locs ls hf hw hl
    refine lv_iload_n hx hb dX10_addToShuffles_79 rfl (lv_at hl 0 rfl) ?_
    exact x_iret C hret hw hf dX10_addToShuffles_80
-- X10_shuffle
abbrev rmX10_shuffle : Room := { frames := 4, cells := 0, slots := 0, locals := 86 }
def fX10_shuffle_b65 (N : Nat) (a1 : Int32) (a2 : Int32) (a3 : Int32) (Q : Int32 → St → Prop) (σ : St) : Prop := fX10_found N σ (4 : Int32) (fun (r20 : Int32) (σ19 : St) => Q r20 σ19)
set_option maxHeartbeats 4000000 in
set_option maxRecDepth 100000 in
theorem eX10_shuffle_b65 {p : Program} {l : Launch} {e : Env} {s : State} {m : MethodId} {args : Array Value} {below : List Frame} {meth : Method} {c : Code} {E : EC} {lay : Nat → Nat → Nat} {L : List (Nat × Nat)} {A : Nat → Prop} (C : Cx p s m args c meth yX10_shuffle.cls cX10_shuffle 7 E A) (hret : meth.sig.returnType = some .int) {N : Nat} {a1 : Int32} {a2 : Int32} {a3 : Int32} {Q : Int32 → St → Prop} (hm0 : (10, 0) ∈ L) (σ : St) (H : Heap) (locs : List Loc) (ls : Array Slot) (hf : fX10_shuffle_b65 N a1 a2 a3 Q σ) (hw : Wo E lay L A s σ H locs) (hl : lv_has ls 7 [(0, .ref (lay 10 0))]) : W p l e rmX10_shuffle s m args below meth c H locs 0 0 (MQ below (va_Qi Q (Bd E lay L A) A) args s 0 0 A) (F0 m 65 ls []) := by
  have hx := C.1
  have hb := C.2.1
  unfold fX10_shuffle_b65 at hf
  refine lv_aload_n hx hb dX10_shuffle_65 rfl (lv_at hl 0 rfl) ?_
  refine lv_iconst (v := 4) hx hb dX10_shuffle_66 (by decide) ?_
  refine x_runi hw (x_V (n := 1) (rest := []) C hw hm0 (by decide) (eX10_found hf hm0) q340 q342 q1 q44 q343 rfl rfl (by decide +kernel) ⟨Nat.le_of_ble_eq_true rfl, Nat.le_of_ble_eq_true rfl⟩ rfl hl.1 rfl (Nat.le_of_ble_eq_true rfl) dX10_shuffle_67) (fun r20 σ19 H locs hf hw => ?_)
  try dsimp only at hf
  exact x_iret C hret hw hf dX10_shuffle_70
def fX10_shuffle (N : Nat) (σ : St) (a1 : Int32) (a2 : Int32) (a3 : Int32) (Q : Int32 → St → Prop) : Prop := fX2_has N σ a1 (fun (r3 : Int32) (σ2 : St) => ((r3 = 0 → Q (-1 : Int32) σ2) ∧ (¬ r3 = 0 → fX10_isWriter N σ2 a2 (fun (r6 : Int32) (σ5 : St) => ((r6 = 0 → Q (-1 : Int32) σ5) ∧ (¬ r6 = 0 → fX10_isWriter N σ5 a3 (fun (r9 : Int32) (σ8 : St) => ((r9 = 0 → Q (-1 : Int32) σ8) ∧ (¬ r9 = 0 → ((¬ a2 = a3 → fX6_clear N σ8 (fun (σ13 : St) => fX10_addToShuffles N σ13 a1 a2 (fun (r15 : Int32) (σ14 : St) => fX10_addToShuffles N σ14 a1 a3 (fun (r17 : Int32) (σ16 : St) => ((r15 = 0 → fX10_shuffle_b65 N a1 a2 a3 Q σ16) ∧ (¬ r15 = 0 → ((¬ r17 = 0 → fX6_countAsFar N σ16 r15 (fun (r24 : Int32) (σ23 : St) => ∀ σ26 : St, σ26 = setJ σ23 10 0 13 (((sF σ23 6 0 9)).toInt64) → Q r24 σ26)) ∧ (r17 = 0 → fX10_shuffle_b65 N a1 a2 a3 Q σ16)))))))) ∧ (a2 = a3 → Q (-1 : Int32) σ8)))))))))))
set_option maxHeartbeats 4000000 in
set_option maxRecDepth 100000 in
theorem eX10_shuffle {l : Launch} {E : EC} {lay : Nat → Nat → Nat} {L : List (Nat × Nat)} {A : Nat → Prop} {N : Nat} {σ : St} {a1 : Int32} {a2 : Int32} {a3 : Int32} {Q : Int32 → St → Prop} (hf : fX10_shuffle N σ a1 a2 a3 Q) (hm0 : (10, 0) ∈ L) : Met l yX10_shuffle (.code yX10_shuffle cX10_shuffle 7 (some .int) :: big) rmX10_shuffle (va_Pc [.ref (lay 10 0), .int a1, .int a2, .int a3] (Bp E lay L A σ)) (va_Qi Q (Bd E lay L A) A) 0 0 A := by
  refine x_met (by decide +kernel) (Nat.le_of_ble_eq_true rfl) ?_
  intro p e s m args below meth c ls C hret hw hl
  have hx := C.1
  have hb := C.2.1
  have hl : lv_has ls 7 [(0, .ref (lay 10 0)), (1, .int a1), (2, .int a2), (3, .int a3)] := hl
  unfold fX10_shuffle at hf
  refine lv_aload_n hx hb dX10_shuffle_0 rfl (lv_at hl 0 rfl) ?_
  have hm_1 : (2, 0) ∈ L := hw.2.2.2.1 10 0 hm0 2 (by decide) (by decide) rfl
  refine x_get (v := .ref (lay 2 0)) (j := 2) C hw hm0 rfl (by decide) (by decide) rfl q291 dX10_shuffle_1 ?_
  refine lv_iload_n hx hb dX10_shuffle_4 rfl (lv_at hl 1 rfl) ?_
  refine x_runi hw (x_V (n := 1) (rest := []) C hw hm_1 (by decide) (eX2_has hf hm_1) q579 q580 q581 q45 q582 rfl rfl (by decide +kernel) ⟨Nat.le_of_ble_eq_true rfl, Nat.le_of_ble_eq_true rfl⟩ rfl hl.1 rfl (Nat.le_of_ble_eq_true rfl) dX10_shuffle_5) (fun r3 σ2 H locs hf hw => ?_)
  have hzr3 := hf.2
  replace hf := hf.1
  try dsimp only at hf
  refine lv_if_eq (tgt := 30) hx hb dX10_shuffle_8 (by decide) (fun c4 => ?_) (fun c4 => ?_)
  · replace hf := hf.1 c4
    refine lv_iconst (v := (-1)) hx hb dX10_shuffle_30 (by decide) ?_
    exact x_iret C hret hw hf dX10_shuffle_31
  · replace hf := hf.2 c4
    refine lv_iload_n hx hb dX10_shuffle_11 rfl (lv_at hl 2 rfl) ?_
    refine x_runi hw (x_S (n := 1) (rest := []) C hw (eX10_isWriter hf) q392 q393 q44 q394 rfl rfl (by decide +kernel) ⟨Nat.le_of_ble_eq_true rfl, Nat.le_of_ble_eq_true rfl⟩ rfl hl.1 rfl (Nat.le_of_ble_eq_true rfl) dX10_shuffle_12) (fun r6 σ5 H locs hf hw => ?_)
    have hzr6 := hf.2
    replace hf := hf.1
    try dsimp only at hf
    refine lv_if_eq (tgt := 30) hx hb dX10_shuffle_15 (by decide) (fun c7 => ?_) (fun c7 => ?_)
    · replace hf := hf.1 c7
      refine lv_iconst (v := (-1)) hx hb dX10_shuffle_30 (by decide) ?_
      exact x_iret C hret hw hf dX10_shuffle_31
    · replace hf := hf.2 c7
      refine lv_iload_n hx hb dX10_shuffle_18 rfl (lv_at hl 3 rfl) ?_
      refine x_runi hw (x_S (n := 1) (rest := []) C hw (eX10_isWriter hf) q392 q393 q44 q394 rfl rfl (by decide +kernel) ⟨Nat.le_of_ble_eq_true rfl, Nat.le_of_ble_eq_true rfl⟩ rfl hl.1 rfl (Nat.le_of_ble_eq_true rfl) dX10_shuffle_19) (fun r9 σ8 H locs hf hw => ?_)
      have hzr9 := hf.2
      replace hf := hf.1
      try dsimp only at hf
      refine lv_if_eq (tgt := 30) hx hb dX10_shuffle_22 (by decide) (fun c10 => ?_) (fun c10 => ?_)
      · replace hf := hf.1 c10
        refine lv_iconst (v := (-1)) hx hb dX10_shuffle_30 (by decide) ?_
        exact x_iret C hret hw hf dX10_shuffle_31
      · replace hf := hf.2 c10
        refine lv_iload_n hx hb dX10_shuffle_25 rfl (lv_at hl 2 rfl) ?_
        refine lv_iload_n hx hb dX10_shuffle_26 rfl (lv_at hl 3 rfl) ?_
        refine lv_icmp_ne (tgt := 32) hx hb dX10_shuffle_27 (by decide) (fun c11 => ?_) (fun c11 => ?_)
        · replace hf := hf.1 c11
          refine lv_aload_n hx hb dX10_shuffle_32 rfl (lv_at hl 0 rfl) ?_
          have hm_12 : (6, 0) ∈ L := hw.2.2.2.1 10 0 hm0 6 (by decide) (by decide) rfl
          refine x_get (v := .ref (lay 6 0)) (j := 6) C hw hm0 rfl (by decide) (by decide) rfl q295 dX10_shuffle_33 ?_
          refine x_runv hw (x_V (n := 0) (rest := []) C hw hm_12 (by decide) (eX6_clear hf hm_12) q800 q801 q802 q50 q803 rfl rfl (by decide +kernel) ⟨Nat.le_of_ble_eq_true rfl, Nat.le_of_ble_eq_true rfl⟩ rfl hl.1 rfl (Nat.le_of_ble_eq_true rfl) dX10_shuffle_36) (fun σ13 H locs hf hw => ?_)
          try dsimp only at hf
          refine lv_aload_n hx hb dX10_shuffle_39 rfl (lv_at hl 0 rfl) ?_
          refine lv_iload_n hx hb dX10_shuffle_40 rfl (lv_at hl 1 rfl) ?_
          refine lv_iload_n hx hb dX10_shuffle_41 rfl (lv_at hl 2 rfl) ?_
          refine x_runi hw (x_V (n := 2) (rest := []) C hw hm0 (by decide) (eX10_addToShuffles hf hm0) q804 q806 q15 q44 q807 rfl rfl (by decide +kernel) ⟨Nat.le_of_ble_eq_true rfl, Nat.le_of_ble_eq_true rfl⟩ rfl hl.1 rfl (Nat.le_of_ble_eq_true rfl) dX10_shuffle_42) (fun r15 σ14 H locs hf hw => ?_)
          try dsimp only at hf
          refine lv_istore (lv' := [(4, .int r15), (0, .ref (lay 10 0)), (1, .int a1), (2, .int a2), (3, .int a3)]) hx hb dX10_shuffle_45 hl (by decide) rfl (fun ls hl => ?_)
          refine lv_aload_n hx hb dX10_shuffle_47 rfl (lv_at hl 1 rfl) ?_
          refine lv_iload_n hx hb dX10_shuffle_48 rfl (lv_at hl 2 rfl) ?_
          refine lv_iload_n hx hb dX10_shuffle_49 rfl (lv_at hl 4 rfl) ?_
          refine x_runi hw (x_V (n := 2) (rest := []) C hw hm0 (by decide) (eX10_addToShuffles hf hm0) q804 q806 q15 q44 q807 rfl rfl (by decide +kernel) ⟨Nat.le_of_ble_eq_true rfl, Nat.le_of_ble_eq_true rfl⟩ rfl hl.1 rfl (Nat.le_of_ble_eq_true rfl) dX10_shuffle_50) (fun r17 σ16 H locs hf hw => ?_)
          try dsimp only at hf
          refine lv_istore (lv' := [(5, .int r17), (4, .int r15), (0, .ref (lay 10 0)), (1, .int a1), (2, .int a2), (3, .int a3)]) hx hb dX10_shuffle_53 hl (by decide) rfl (fun ls hl => ?_)
          refine lv_iload hx hb dX10_shuffle_55 (lv_at hl 1 rfl) ?_
          refine lv_if_eq (tgt := 65) hx hb dX10_shuffle_57 (by decide) (fun c18 => ?_) (fun c18 => ?_)
          · replace hf := hf.1 c18
            exact eX10_shuffle_b65 C hret hm0 σ16 _ _ _ hf hw (lv_sub hl [2] rfl)
          · replace hf := hf.2 c18
            refine lv_iload hx hb dX10_shuffle_60 (lv_at hl 0 rfl) ?_
            refine lv_if_ne (tgt := 71) hx hb dX10_shuffle_62 (by decide) (fun c21 => ?_) (fun c21 => ?_)
            · replace hf := hf.1 c21
              refine lv_aload_n hx hb dX10_shuffle_71 rfl (lv_at hl 2 rfl) ?_
              have hm_22 : (6, 0) ∈ L := hw.2.2.2.1 10 0 hm0 6 (by decide) (by decide) rfl
              refine x_get (v := .ref (lay 6 0)) (j := 6) C hw hm0 rfl (by decide) (by decide) rfl q295 dX10_shuffle_72 ?_
              refine lv_iload hx hb dX10_shuffle_75 (lv_at hl 1 rfl) ?_
              refine x_runi hw (x_V (n := 1) (rest := []) C hw hm_22 (by decide) (eX6_countAsFar hf hm_22) q813 q814 q815 q50 q816 rfl rfl (by decide +kernel) ⟨Nat.le_of_ble_eq_true rfl, Nat.le_of_ble_eq_true rfl⟩ rfl hl.1 rfl (Nat.le_of_ble_eq_true rfl) dX10_shuffle_77) (fun r24 σ23 H locs hf hw => ?_)
              try dsimp only at hf
              refine lv_istore (lv' := [(6, .int r24), (5, .int r17), (4, .int r15), (0, .ref (lay 10 0)), (1, .int a1), (2, .int a2), (3, .int a3)]) hx hb dX10_shuffle_80 hl (by decide) rfl (fun ls hl => ?_)
              refine lv_aload_n hx hb dX10_shuffle_82 rfl (lv_at hl 3 rfl) ?_
              refine lv_aload_n hx hb dX10_shuffle_83 rfl (lv_at hl 3 rfl) ?_
              have hm_25 : (6, 0) ∈ L := hw.2.2.2.1 10 0 hm0 6 (by decide) (by decide) rfl
              refine x_get (v := .ref (lay 6 0)) (j := 6) C hw hm0 rfl (by decide) (by decide) rfl q295 dX10_shuffle_84 ?_
              refine x_getN (v := .int (sF σ23 6 0 9)) (j := 9) (host := "WhoseHand") C hw hm_25 rfl (by decide) (by decide) rfl q213 dX10_shuffle_87 ?_
              refine lv_i2l hx hb dX10_shuffle_90 rfl ?_
              refine x_putJ (j := 13) C hw hm0 rfl (by decide) (by decide) rfl rfl (by decide +kernel) q302 dX10_shuffle_91 (fun σ26 H locs eσ26 hw => ?_)
              replace hf := hf σ26 eσ26
              refine lv_iload hx hb dX10_shuffle_94 (lv_at hl 0 rfl) ?_
              exact x_iret C hret hw hf dX10_shuffle_96
            · replace hf := hf.2 c21
              exact eX10_shuffle_b65 C hret hm0 σ16 _ _ _ hf hw (lv_sub hl [2] rfl)
        · replace hf := hf.2 c11
          refine lv_iconst (v := (-1)) hx hb dX10_shuffle_30 (by decide) ?_
          exact x_iret C hret hw hf dX10_shuffle_31
-- X10_asked
abbrev rmX10_asked : Room := { frames := 0, cells := 0, slots := 0, locals := 0 }
def fX10_asked (N : Nat) (σ : St) (Q : Int64 → St → Prop) : Prop := Q (sJ σ 10 0 13) σ
set_option maxHeartbeats 4000000 in
set_option maxRecDepth 100000 in
theorem eX10_asked {l : Launch} {E : EC} {lay : Nat → Nat → Nat} {L : List (Nat × Nat)} {A : Nat → Prop} {N : Nat} {σ : St} {Q : Int64 → St → Prop} (hf : fX10_asked N σ Q) (hm0 : (10, 0) ∈ L) : Met l yX10_asked (.code yX10_asked cX10_asked 1 (some .long) :: big) rmX10_asked (va_Pc [.ref (lay 10 0)] (Bp E lay L A σ)) (va_Ql Q (Bd E lay L A) A) 0 0 A := by
  refine x_met (by decide +kernel) (Nat.le_of_ble_eq_true rfl) ?_
  intro p e s m args below meth c ls C hret hw hl
  have hx := C.1
  have hb := C.2.1
  have hl : lv_has ls 1 [(0, .ref (lay 10 0))] := hl
  unfold fX10_asked at hf
  refine lv_aload_n hx hb dX10_asked_0 rfl (lv_at hl 0 rfl) ?_
  refine x_get (v := .long (sJ σ 10 0 13)) (j := 13) C hw hm0 rfl (by decide) (by decide) rfl q302 dX10_asked_1 ?_
  exact x_lret C hret hw hf dX10_asked_4
-- X10_textsThere
abbrev rmX10_textsThere : Room := { frames := 0, cells := 0, slots := 0, locals := 0 }
def fX10_textsThere_b37_4 (N : Nat) (Q : Int32 → St → Prop) (Kh : St → Int32 → Int32 → Prop) (Kx43 : St → Int32 → Prop) (σ : St) (v1 : Int32) (v2 : Int32) : Prop := Kh σ v1 (v2 + (1 : Int32))
def fX10_textsThere_l4 (N : Nat) (Q : Int32 → St → Prop) (Kx43 : St → Int32 → Prop) : Nat → St → Int32 → Int32 → Prop
  | 0, _, _, _ => False
  | n + 1, σ, v1, v2 => (((14 : Int32) ≤ v2 → Kx43 σ v1) ∧ (¬ (14 : Int32) ≤ v2 → (vp_in v2 14 ∧ (((sR σ 21 0 (v2).toNatClampNeg) = none → fX10_textsThere_b37_4 N Q (fun (σ : St) (w1 : Int32) (w2 : Int32) => fX10_textsThere_l4 N Q Kx43 n σ w1 w2) Kx43 σ v1 v2) ∧ (∀ i5, (sR σ 21 0 (v2).toNatClampNeg) = some i5 → (vp_in v2 14 ∧ (∃ i9, (sR σ 21 0 (v2).toNatClampNeg) = some i9 ∧ ((¬ (sF σ 8 i9 5) = 0 → fX10_textsThere_b37_4 N Q (fun (σ : St) (w1 : Int32) (w2 : Int32) => fX10_textsThere_l4 N Q Kx43 n σ w1 w2) Kx43 σ v1 v2) ∧ ((sF σ 8 i9 5) = 0 → fX10_textsThere_b37_4 N Q (fun (σ : St) (w1 : Int32) (w2 : Int32) => fX10_textsThere_l4 N Q Kx43 n σ w1 w2) Kx43 σ (v1 + (1 : Int32)) v2)))))))))
set_option maxHeartbeats 4000000 in
set_option maxRecDepth 100000 in
theorem eX10_textsThere_b37_4 {p : Program} {l : Launch} {e : Env} {s : State} {m : MethodId} {args : Array Value} {below : List Frame} {meth : Method} {c : Code} {E : EC} {lay : Nat → Nat → Nat} {L : List (Nat × Nat)} {A : Nat → Prop} (C : Cx p s m args c meth yX10_textsThere.cls cX10_textsThere 3 E A) (hret : meth.sig.returnType = some .int) {N : Nat} {Q : Int32 → St → Prop} {Kh : St → Int32 → Int32 → Prop} {Kx43 : St → Int32 → Prop} (hm0 : (10, 0) ∈ L) (hKh : ∀ (σ : St) (w1 : Int32) (w2 : Int32) (H : Heap) (locs : List Loc) (ls : Array Slot), Kh σ w1 w2 → Wo E lay L A s σ H locs → lv_has ls 3 [(0, .ref (lay 10 0)), (1, .int w1), (2, .int w2)] → W p l e rmX10_textsThere s m args below meth c H locs 0 0 (MQ below (va_Qi Q (Bd E lay L A) A) args s 0 0 A) (F0 m 4 ls [])) (hK43 : ∀ (σ : St) (w1 : Int32) (H : Heap) (locs : List Loc) (ls : Array Slot), Kx43 σ w1 → Wo E lay L A s σ H locs → lv_has ls 3 [(1, .int w1)] → W p l e rmX10_textsThere s m args below meth c H locs 0 0 (MQ below (va_Qi Q (Bd E lay L A) A) args s 0 0 A) (F0 m 43 ls [])) (σ : St) (v1 : Int32) (v2 : Int32) (H : Heap) (locs : List Loc) (ls : Array Slot) (hf : fX10_textsThere_b37_4 N Q Kh Kx43 σ v1 v2) (hw : Wo E lay L A s σ H locs) (hl : lv_has ls 3 [(0, .ref (lay 10 0)), (1, .int v1), (2, .int v2)]) : W p l e rmX10_textsThere s m args below meth c H locs 0 0 (MQ below (va_Qi Q (Bd E lay L A) A) args s 0 0 A) (F0 m 37 ls []) := by
  have hx := C.1
  have hb := C.2.1
  unfold fX10_textsThere_b37_4 at hf
  refine lv_iinc (v := (v2 + (1 : Int32))) (lv' := [(2, .int (v2 + (1 : Int32))), (0, .ref (lay 10 0)), (1, .int v1)]) hx hb dX10_textsThere_37 hl (k := 2) rfl (by rfl) (by decide) rfl (fun ls hl => ?_)
  refine lv_goto (tgt := 4) hx hb dX10_textsThere_40 (by decide) ?_
  exact hKh σ v1 (v2 + (1 : Int32)) _ _ _ hf hw (lv_sub hl [1, 2, 0] rfl)
set_option maxHeartbeats 4000000 in
set_option maxRecDepth 100000 in
theorem eX10_textsThere_l4 {p : Program} {l : Launch} {e : Env} {s : State} {m : MethodId} {args : Array Value} {below : List Frame} {meth : Method} {c : Code} {E : EC} {lay : Nat → Nat → Nat} {L : List (Nat × Nat)} {A : Nat → Prop} (C : Cx p s m args c meth yX10_textsThere.cls cX10_textsThere 3 E A) (hret : meth.sig.returnType = some .int) {N : Nat} {Q : Int32 → St → Prop} {Kx43 : St → Int32 → Prop} (hm0 : (10, 0) ∈ L) (hK43 : ∀ (σ : St) (w1 : Int32) (H : Heap) (locs : List Loc) (ls : Array Slot), Kx43 σ w1 → Wo E lay L A s σ H locs → lv_has ls 3 [(1, .int w1)] → W p l e rmX10_textsThere s m args below meth c H locs 0 0 (MQ below (va_Qi Q (Bd E lay L A) A) args s 0 0 A) (F0 m 43 ls [])) : ∀ (n : Nat) (σ : St) (v1 : Int32) (v2 : Int32) (H : Heap) (locs : List Loc) (ls : Array Slot), fX10_textsThere_l4 N Q Kx43 n σ v1 v2 → Wo E lay L A s σ H locs → lv_has ls 3 [(0, .ref (lay 10 0)), (1, .int v1), (2, .int v2)] → W p l e rmX10_textsThere s m args below meth c H locs 0 0 (MQ below (va_Qi Q (Bd E lay L A) A) args s 0 0 A) (F0 m 4 ls []) := by
  have hx := C.1
  have hb := C.2.1
  intro n
  induction n with
  | zero => intro σ v1 v2 H locs ls hf; exact hf.elim
  | succ n ih =>
    intro σ v1 v2 H locs ls hf hw hl
    rw [fX10_textsThere_l4] at hf
    refine lv_iload_n hx hb dX10_textsThere_4 rfl (lv_at hl 2 rfl) ?_
    refine lv_aload_n hx hb dX10_textsThere_5 rfl (lv_at hl 0 rfl) ?_
    have hm_1 : (21, 0) ∈ L := hw.2.2.2.1 10 0 hm0 1 (by decide) (by decide) rfl
    refine x_get (v := .ref (lay 21 0)) (j := 1) C hw hm0 rfl (by decide) (by decide) rfl q290 dX10_textsThere_6 ?_
    refine x_alen (v := 14) C hw hm_1 (by decide) (by decide) (by decide) dX10_textsThere_9 ?_
    refine lv_icmp_ge (tgt := 43) hx hb dX10_textsThere_10 (by decide) (fun c2 => ?_) (fun c2 => ?_)
    · replace hf := hf.1 c2
      exact hK43 σ v1 _ _ _ hf hw (lv_sub hl [1] rfl)
    · replace hf := hf.2 c2
      refine lv_aload_n hx hb dX10_textsThere_13 rfl (lv_at hl 0 rfl) ?_
      have hm_3 : (21, 0) ∈ L := hw.2.2.2.1 10 0 hm0 1 (by decide) (by decide) rfl
      refine x_get (v := .ref (lay 21 0)) (j := 1) C hw hm0 rfl (by decide) (by decide) rfl q290 dX10_textsThere_14 ?_
      refine lv_iload_n hx hb dX10_textsThere_17 rfl (lv_at hl 2 rfl) ?_
      have hO_4 : ∀ i, (sR σ 21 0 (v2).toNatClampNeg) = some i → (8, i) ∈ L := fun i h => hw.2.2.2.2 21 _ _ i h
      refine x_aald (t := 5) (T := 8) C hw hm_3 (by decide) rfl (by decide) rfl hf.1 rfl dX10_textsThere_18 ?_
      replace hf := hf.2
      refine x_ifnull (r := (sR σ 21 0 (v2).toNatClampNeg)) (tgt := 37) hx hb dX10_textsThere_19 (by decide) (fun eni5 => ?_) (fun i5 eni5 => ?_)
      · replace hf := hf.1 eni5
        exact eX10_textsThere_b37_4 C hret hm0 ih hK43 σ v1 v2 _ _ _ hf hw (lv_sub hl [0, 1, 2] rfl)
      · replace hf := hf.2 i5 eni5
        have hn_6 := hO_4 i5 eni5
        try rw [eni5]
        refine lv_aload_n hx hb dX10_textsThere_22 rfl (lv_at hl 0 rfl) ?_
        have hm_7 : (21, 0) ∈ L := hw.2.2.2.1 10 0 hm0 1 (by decide) (by decide) rfl
        refine x_get (v := .ref (lay 21 0)) (j := 1) C hw hm0 rfl (by decide) (by decide) rfl q290 dX10_textsThere_23 ?_
        refine lv_iload_n hx hb dX10_textsThere_26 rfl (lv_at hl 2 rfl) ?_
        have hO_8 : ∀ i, (sR σ 21 0 (v2).toNatClampNeg) = some i → (8, i) ∈ L := fun i h => hw.2.2.2.2 21 _ _ i h
        refine x_aald (t := 5) (T := 8) C hw hm_7 (by decide) rfl (by decide) rfl hf.1 rfl dX10_textsThere_27 ?_
        replace hf := hf.2
        obtain ⟨i9, eni9, hf⟩ := hf
        have hn_10 := hO_8 i9 eni9
        rw [show rf lay 8 (sR σ 21 0 (v2).toNatClampNeg) = .ref (lay 8 i9) from by rw [eni9]; rfl]
        refine x_getN (v := .int (sF σ 8 i9 5)) (j := 5) (host := "WhoseHand") C hw hn_10 rfl (by decide) (by decide) rfl q420 dX10_textsThere_28 ?_
        refine lv_if_ne (tgt := 37) hx hb dX10_textsThere_31 (by decide) (fun c11 => ?_) (fun c11 => ?_)
        · replace hf := hf.1 c11
          exact eX10_textsThere_b37_4 C hret hm0 ih hK43 σ v1 v2 _ _ _ hf hw (lv_sub hl [0, 1, 2] rfl)
        · replace hf := hf.2 c11
          refine lv_iinc (v := (v1 + (1 : Int32))) (lv' := [(1, .int (v1 + (1 : Int32))), (0, .ref (lay 10 0)), (2, .int v2)]) hx hb dX10_textsThere_34 hl (k := 1) rfl (by rfl) (by decide) rfl (fun ls hl => ?_)
          exact eX10_textsThere_b37_4 C hret hm0 ih hK43 σ (v1 + (1 : Int32)) v2 _ _ _ hf hw (lv_sub hl [1, 0, 2] rfl)
def fX10_textsThere (N : Nat) (σ : St) (Q : Int32 → St → Prop) : Prop := fX10_textsThere_l4 N Q (fun (σ12 : St) (u43_1 : Int32) => Q u43_1 σ12) N σ (0 : Int32) (0 : Int32)
set_option maxHeartbeats 4000000 in
set_option maxRecDepth 100000 in
theorem eX10_textsThere {l : Launch} {E : EC} {lay : Nat → Nat → Nat} {L : List (Nat × Nat)} {A : Nat → Prop} {N : Nat} {σ : St} {Q : Int32 → St → Prop} (hf : fX10_textsThere N σ Q) (hm0 : (10, 0) ∈ L) : Met l yX10_textsThere (.code yX10_textsThere cX10_textsThere 3 (some .int) :: big) rmX10_textsThere (va_Pc [.ref (lay 10 0)] (Bp E lay L A σ)) (va_Qi Q (Bd E lay L A) A) 0 0 A := by
  refine x_met (by decide +kernel) (Nat.le_of_ble_eq_true rfl) ?_
  intro p e s m args below meth c ls C hret hw hl
  have hx := C.1
  have hb := C.2.1
  have hl : lv_has ls 3 [(0, .ref (lay 10 0))] := hl
  unfold fX10_textsThere at hf
  refine lv_iconst (v := 0) hx hb dX10_textsThere_0 (by decide) ?_
  refine lv_istore_n (lv' := [(1, .int (0 : Int32)), (0, .ref (lay 10 0))]) hx hb dX10_textsThere_1 rfl hl (by decide) rfl (fun ls hl => ?_)
  refine lv_iconst (v := 0) hx hb dX10_textsThere_2 (by decide) ?_
  refine lv_istore_n (lv' := [(2, .int (0 : Int32)), (1, .int (0 : Int32)), (0, .ref (lay 10 0))]) hx hb dX10_textsThere_3 rfl hl (by decide) rfl (fun ls hl => ?_)
  refine eX10_textsThere_l4 C hret hm0 ?_ N σ (0 : Int32) (0 : Int32) _ _ _ hf hw (lv_sub hl [2, 1, 0] rfl)
  · intro σ12 u43_1 H locs ls hf hw hl
    refine lv_iload_n hx hb dX10_textsThere_43 rfl (lv_at hl 0 rfl) ?_
    exact x_iret C hret hw hf dX10_textsThere_44
-- X10_countedOf
abbrev rmX10_countedOf : Room := { frames := 1, cells := 0, slots := 0, locals := 22 }
def fX10_countedOf (N : Nat) (σ : St) (a1 : Int32) (Q : Int32 → St → Prop) : Prop := ((a1 = (0 : Int32) → Q (sF σ 10 0 11) σ) ∧ (a1 = (1 : Int32) → fX10_textsThere N σ (fun (r2 : Int32) (σ1 : St) => Q r2 σ1)) ∧ (a1 = (2 : Int32) → Q (sF σ 2 0 2) σ) ∧ (¬ a1 = (0 : Int32) → ¬ a1 = (1 : Int32) → ¬ a1 = (2 : Int32) → Q (sF σ 2 0 3) σ))
set_option maxHeartbeats 4000000 in
set_option maxRecDepth 100000 in
theorem eX10_countedOf {l : Launch} {E : EC} {lay : Nat → Nat → Nat} {L : List (Nat × Nat)} {A : Nat → Prop} {N : Nat} {σ : St} {a1 : Int32} {Q : Int32 → St → Prop} (hf : fX10_countedOf N σ a1 Q) (hm0 : (10, 0) ∈ L) : Met l yX10_countedOf (.code yX10_countedOf cX10_countedOf 2 (some .int) :: big) rmX10_countedOf (va_Pc [.ref (lay 10 0), .int a1] (Bp E lay L A σ)) (va_Qi Q (Bd E lay L A) A) 0 0 A := by
  refine x_met (by decide +kernel) (Nat.le_of_ble_eq_true rfl) ?_
  intro p e s m args below meth c ls C hret hw hl
  have hx := C.1
  have hb := C.2.1
  have hl : lv_has ls 2 [(0, .ref (lay 10 0)), (1, .int a1)] := hl
  unfold fX10_countedOf at hf
  refine lv_iload_n hx hb dX10_countedOf_0 rfl (lv_at hl 1 rfl) ?_
  by_cases c1_0 : a1 = (0 : Int32)
  · replace hf := hf.1 c1_0
    rw [c1_0]
    refine lv_tableIn (off := 27) (tgt := 28) hx hb dX10_countedOf_1 (by decide) (by decide) (by decide) (by decide) ?_
    refine lv_aload_n hx hb dX10_countedOf_28 rfl (lv_at hl 0 rfl) ?_
    refine x_get (v := .int (sF σ 10 0 11)) (j := 11) C hw hm0 rfl (by decide) (by decide) rfl q300 dX10_countedOf_29 ?_
    exact x_iret C hret hw hf dX10_countedOf_32
  by_cases c1_1 : a1 = (1 : Int32)
  · replace hf := hf.2.1 c1_1
    rw [c1_1]
    refine lv_tableIn (off := 32) (tgt := 33) hx hb dX10_countedOf_1 (by decide) (by decide) (by decide) (by decide) ?_
    refine lv_aload_n hx hb dX10_countedOf_33 rfl (lv_at hl 0 rfl) ?_
    refine x_runi hw (x_V (n := 0) (rest := []) C hw hm0 (by decide) (eX10_textsThere hf hm0) q847 q849 q20 q44 q850 rfl rfl (by decide +kernel) ⟨Nat.le_of_ble_eq_true rfl, Nat.le_of_ble_eq_true rfl⟩ rfl hl.1 rfl (Nat.le_of_ble_eq_true rfl) dX10_countedOf_34) (fun r2 σ1 H locs hf hw => ?_)
    try dsimp only at hf
    exact x_iret C hret hw hf dX10_countedOf_37
  by_cases c1_2 : a1 = (2 : Int32)
  · replace hf := hf.2.2.1 c1_2
    rw [c1_2]
    refine lv_tableIn (off := 37) (tgt := 38) hx hb dX10_countedOf_1 (by decide) (by decide) (by decide) (by decide) ?_
    refine lv_aload_n hx hb dX10_countedOf_38 rfl (lv_at hl 0 rfl) ?_
    have hm_3 : (2, 0) ∈ L := hw.2.2.2.1 10 0 hm0 2 (by decide) (by decide) rfl
    refine x_get (v := .ref (lay 2 0)) (j := 2) C hw hm0 rfl (by decide) (by decide) rfl q291 dX10_countedOf_39 ?_
    refine x_getN (v := .int (sF σ 2 0 2)) (j := 2) (host := "WhoseHand") C hw hm_3 rfl (by decide) (by decide) rfl q81 dX10_countedOf_42 ?_
    exact x_iret C hret hw hf dX10_countedOf_45
  replace hf := hf.2.2.2 c1_0 c1_1 c1_2
  refine lv_tableOut (tgt := 46) (x := a1) hx hb dX10_countedOf_1 (by have h := sw_out (x := a1) 0 3 (by decide) (fun k hk0 hk => by rcases (show k = 0 ∨ k = 1 ∨ k = 2 by omega) with rfl | rfl | rfl <;> first | exact c1_0 | exact c1_1 | exact c1_2); omega) (by decide) ?_
  refine lv_aload_n hx hb dX10_countedOf_46 rfl (lv_at hl 0 rfl) ?_
  have hm_4 : (2, 0) ∈ L := hw.2.2.2.1 10 0 hm0 2 (by decide) (by decide) rfl
  refine x_get (v := .ref (lay 2 0)) (j := 2) C hw hm0 rfl (by decide) (by decide) rfl q291 dX10_countedOf_47 ?_
  refine x_getN (v := .int (sF σ 2 0 3)) (j := 3) (host := "WhoseHand") C hw hm_4 rfl (by decide) (by decide) rfl q83 dX10_countedOf_50 ?_
  exact x_iret C hret hw hf dX10_countedOf_53
-- X10_count
abbrev rmX10_count : Room := { frames := 2, cells := 0, slots := 0, locals := 43 }
def fX10_count (N : Nat) (σ : St) (a1 : Int32) (Q : Int32 → St → Prop) : Prop := ((a1 < 0 → Q (-1 : Int32) σ) ∧ (¬ a1 < 0 → ((a1 < (4 : Int32) → fX10_countedOf N σ a1 (fun (r4 : Int32) (σ3 : St) => Q r4 σ3)) ∧ (¬ a1 < (4 : Int32) → Q (-1 : Int32) σ))))
set_option maxHeartbeats 4000000 in
set_option maxRecDepth 100000 in
theorem eX10_count {l : Launch} {E : EC} {lay : Nat → Nat → Nat} {L : List (Nat × Nat)} {A : Nat → Prop} {N : Nat} {σ : St} {a1 : Int32} {Q : Int32 → St → Prop} (hf : fX10_count N σ a1 Q) (hm0 : (10, 0) ∈ L) : Met l yX10_count (.code yX10_count cX10_count 2 (some .int) :: big) rmX10_count (va_Pc [.ref (lay 10 0), .int a1] (Bp E lay L A σ)) (va_Qi Q (Bd E lay L A) A) 0 0 A := by
  refine x_met (by decide +kernel) (Nat.le_of_ble_eq_true rfl) ?_
  intro p e s m args below meth c ls C hret hw hl
  have hx := C.1
  have hb := C.2.1
  have hl : lv_has ls 2 [(0, .ref (lay 10 0)), (1, .int a1)] := hl
  unfold fX10_count at hf
  refine lv_iload_n hx hb dX10_count_0 rfl (lv_at hl 1 rfl) ?_
  refine lv_if_lt (tgt := 9) hx hb dX10_count_1 (by decide) (fun c1 => ?_) (fun c1 => ?_)
  · replace hf := hf.1 c1
    refine lv_iconst (v := (-1)) hx hb dX10_count_9 (by decide) ?_
    exact x_iret C hret hw hf dX10_count_10
  · replace hf := hf.2 c1
    refine lv_iload_n hx hb dX10_count_4 rfl (lv_at hl 1 rfl) ?_
    refine lv_iconst (v := 4) hx hb dX10_count_5 (by decide) ?_
    refine lv_icmp_lt (tgt := 11) hx hb dX10_count_6 (by decide) (fun c2 => ?_) (fun c2 => ?_)
    · replace hf := hf.1 c2
      refine lv_aload_n hx hb dX10_count_11 rfl (lv_at hl 0 rfl) ?_
      refine lv_iload_n hx hb dX10_count_12 rfl (lv_at hl 1 rfl) ?_
      refine x_runi hw (x_V (n := 1) (rest := []) C hw hm0 (by decide) (eX10_countedOf hf hm0) q843 q845 q19 q44 q846 rfl rfl (by decide +kernel) ⟨Nat.le_of_ble_eq_true rfl, Nat.le_of_ble_eq_true rfl⟩ rfl hl.1 rfl (Nat.le_of_ble_eq_true rfl) dX10_count_13) (fun r4 σ3 H locs hf hw => ?_)
      try dsimp only at hf
      exact x_iret C hret hw hf dX10_count_16
    · replace hf := hf.2 c2
      refine lv_iconst (v := (-1)) hx hb dX10_count_9 (by decide) ?_
      exact x_iret C hret hw hf dX10_count_10
-- X10_finding
abbrev rmX10_finding : Room := { frames := 0, cells := 0, slots := 0, locals := 0 }
def fX10_finding (N : Nat) (σ : St) (Q : Int32 → St → Prop) : Prop := Q (sF σ 10 0 12) σ
set_option maxHeartbeats 4000000 in
set_option maxRecDepth 100000 in
theorem eX10_finding {l : Launch} {E : EC} {lay : Nat → Nat → Nat} {L : List (Nat × Nat)} {A : Nat → Prop} {N : Nat} {σ : St} {Q : Int32 → St → Prop} (hf : fX10_finding N σ Q) (hm0 : (10, 0) ∈ L) : Met l yX10_finding (.code yX10_finding cX10_finding 1 (some .int) :: big) rmX10_finding (va_Pc [.ref (lay 10 0)] (Bp E lay L A σ)) (va_Qi Q (Bd E lay L A) A) 0 0 A := by
  refine x_met (by decide +kernel) (Nat.le_of_ble_eq_true rfl) ?_
  intro p e s m args below meth c ls C hret hw hl
  have hx := C.1
  have hb := C.2.1
  have hl : lv_has ls 1 [(0, .ref (lay 10 0))] := hl
  unfold fX10_finding at hf
  refine lv_aload_n hx hb dX10_finding_0 rfl (lv_at hl 0 rfl) ?_
  refine x_get (v := .int (sF σ 10 0 12)) (j := 12) C hw hm0 rfl (by decide) (by decide) rfl q301 dX10_finding_1 ?_
  exact x_iret C hret hw hf dX10_finding_4
-- X10_findings
abbrev rmX10_findings : Room := { frames := 0, cells := 0, slots := 0, locals := 0 }
def fX10_findings (N : Nat) (σ : St) (a1 : Int32) (Q : Int32 → St → Prop) : Prop := ((a1 < (1 : Int32) → Q (-1 : Int32) σ) ∧ (¬ a1 < (1 : Int32) → ((a1 < (6 : Int32) → (vp_in a1 6 ∧ Q (sA σ 22 0 (a1).toNatClampNeg) σ)) ∧ (¬ a1 < (6 : Int32) → Q (-1 : Int32) σ))))
set_option maxHeartbeats 4000000 in
set_option maxRecDepth 100000 in
theorem eX10_findings {l : Launch} {E : EC} {lay : Nat → Nat → Nat} {L : List (Nat × Nat)} {A : Nat → Prop} {N : Nat} {σ : St} {a1 : Int32} {Q : Int32 → St → Prop} (hf : fX10_findings N σ a1 Q) (hm0 : (10, 0) ∈ L) : Met l yX10_findings (.code yX10_findings cX10_findings 2 (some .int) :: big) rmX10_findings (va_Pc [.ref (lay 10 0), .int a1] (Bp E lay L A σ)) (va_Qi Q (Bd E lay L A) A) 0 0 A := by
  refine x_met (by decide +kernel) (Nat.le_of_ble_eq_true rfl) ?_
  intro p e s m args below meth c ls C hret hw hl
  have hx := C.1
  have hb := C.2.1
  have hl : lv_has ls 2 [(0, .ref (lay 10 0)), (1, .int a1)] := hl
  unfold fX10_findings at hf
  refine lv_iload_n hx hb dX10_findings_0 rfl (lv_at hl 1 rfl) ?_
  refine lv_iconst (v := 1) hx hb dX10_findings_1 (by decide) ?_
  refine lv_icmp_lt (tgt := 14) hx hb dX10_findings_2 (by decide) (fun c1 => ?_) (fun c1 => ?_)
  · replace hf := hf.1 c1
    refine lv_iconst (v := (-1)) hx hb dX10_findings_14 (by decide) ?_
    exact x_iret C hret hw hf dX10_findings_15
  · replace hf := hf.2 c1
    refine lv_iload_n hx hb dX10_findings_5 rfl (lv_at hl 1 rfl) ?_
    refine lv_aload_n hx hb dX10_findings_6 rfl (lv_at hl 0 rfl) ?_
    have hm_2 : (22, 0) ∈ L := hw.2.2.2.1 10 0 hm0 10 (by decide) (by decide) rfl
    refine x_get (v := .ref (lay 22 0)) (j := 10) C hw hm0 rfl (by decide) (by decide) rfl q299 dX10_findings_7 ?_
    refine x_alen (v := 6) C hw hm_2 (by decide) (by decide) (by decide) dX10_findings_10 ?_
    refine lv_icmp_lt (tgt := 16) hx hb dX10_findings_11 (by decide) (fun c3 => ?_) (fun c3 => ?_)
    · replace hf := hf.1 c3
      refine lv_aload_n hx hb dX10_findings_16 rfl (lv_at hl 0 rfl) ?_
      have hm_4 : (22, 0) ∈ L := hw.2.2.2.1 10 0 hm0 10 (by decide) (by decide) rfl
      refine x_get (v := .ref (lay 22 0)) (j := 10) C hw hm0 rfl (by decide) (by decide) rfl q299 dX10_findings_17 ?_
      refine lv_iload_n hx hb dX10_findings_20 rfl (lv_at hl 1 rfl) ?_
      refine x_iald C hw hm_4 (by decide) rfl hf.1 dX10_findings_21 ?_
      replace hf := hf.2
      exact x_iret C hret hw hf dX10_findings_22
    · replace hf := hf.2 c3
      refine lv_iconst (v := (-1)) hx hb dX10_findings_14 (by decide) ?_
      exact x_iret C hret hw hf dX10_findings_15
-- X10_digestText
abbrev rmX10_digestText : Room := { frames := 1, cells := 0, slots := 0, locals := 21 }
def fX10_digestText_l21 (N : Nat) (a1 : Int64) (a3 : Nat) (Q : Int64 → St → Prop) (Kx49 : St → Int64 → Prop) : Nat → St → Int64 → Int32 → Prop
  | 0, _, _, _ => False
  | n + 1, σ, v4, v6 => (((5 : Int32) ≤ v6 → Kx49 σ v4) ∧ (¬ (5 : Int32) ≤ v6 → fX8_tell N σ a3 v6 (fun (r4 : Int32) (σ3 : St) => fX10_digestText_l21 N a1 a3 Q Kx49 n σ3 (((31 : Int64) * v4) + ((r4).toInt64)) (v6 + (1 : Int32)))))
def fX10_digestText_l52 (N : Nat) (a1 : Int64) (a3 : Nat) (Q : Int64 → St → Prop) (Kx89 : St → Int64 → Prop) : Nat → St → Int64 → Int32 → Prop
  | 0, _, _, _ => False
  | n + 1, σ, v4, v6 => (((sF σ 2 0 2) ≤ v6 → Kx89 σ v4) ∧ (¬ (sF σ 2 0 2) ≤ v6 → fX7_countOf N σ a3 v6 (fun (r10 : Int32) (σ9 : St) => fX10_digestText_l52 N a1 a3 Q Kx89 n σ9 (((31 : Int64) * v4) + ((r10).toInt64)) (v6 + (1 : Int32)))))
set_option maxHeartbeats 4000000 in
set_option maxRecDepth 100000 in
theorem eX10_digestText_l21 {p : Program} {l : Launch} {e : Env} {s : State} {m : MethodId} {args : Array Value} {below : List Frame} {meth : Method} {c : Code} {E : EC} {lay : Nat → Nat → Nat} {L : List (Nat × Nat)} {A : Nat → Prop} (C : Cx p s m args c meth yX10_digestText.cls cX10_digestText 7 E A) (hret : meth.sig.returnType = some .long) {N : Nat} {a1 : Int64} {a3 : Nat} {Q : Int64 → St → Prop} {Kx49 : St → Int64 → Prop} (hm0 : (10, 0) ∈ L) (hm3 : (8, a3) ∈ L) (hK49 : ∀ (σ : St) (w4 : Int64) (H : Heap) (locs : List Loc) (ls : Array Slot), Kx49 σ w4 → Wo E lay L A s σ H locs → lv_has ls 7 [(0, .ref (lay 10 0)), (3, .ref (lay 8 a3)), (4, .long w4)] → W p l e rmX10_digestText s m args below meth c H locs 0 0 (MQ below (va_Ql Q (Bd E lay L A) A) args s 0 0 A) (F0 m 49 ls [])) : ∀ (n : Nat) (σ : St) (v4 : Int64) (v6 : Int32) (H : Heap) (locs : List Loc) (ls : Array Slot), fX10_digestText_l21 N a1 a3 Q Kx49 n σ v4 v6 → Wo E lay L A s σ H locs → lv_has ls 7 [(0, .ref (lay 10 0)), (3, .ref (lay 8 a3)), (4, .long v4), (6, .int v6)] → W p l e rmX10_digestText s m args below meth c H locs 0 0 (MQ below (va_Ql Q (Bd E lay L A) A) args s 0 0 A) (F0 m 21 ls []) := by
  have hx := C.1
  have hb := C.2.1
  intro n
  induction n with
  | zero => intro σ v4 v6 H locs ls hf; exact hf.elim
  | succ n ih =>
    intro σ v4 v6 H locs ls hf hw hl
    rw [fX10_digestText_l21] at hf
    refine lv_iload hx hb dX10_digestText_21 (lv_at hl 3 rfl) ?_
    refine lv_iconst (v := 5) hx hb dX10_digestText_23 (by decide) ?_
    refine lv_icmp_ge (tgt := 49) hx hb dX10_digestText_24 (by decide) (fun c2 => ?_) (fun c2 => ?_)
    · replace hf := hf.1 c2
      exact hK49 σ v4 _ _ _ hf hw (lv_sub hl [0, 1, 2] rfl)
    · replace hf := hf.2 c2
      refine lv_ldc2 (v := 31) hx hb C.2.2.2.1 (C.2.2.2.2.1 _ q864) dX10_digestText_27 ?_
      refine lv_lload hx hb dX10_digestText_30 (lv_at hl 2 rfl) ?_
      refine lv_lmul hx hb dX10_digestText_32 ?_
      refine lv_aload_n hx hb dX10_digestText_33 rfl (lv_at hl 1 rfl) ?_
      refine lv_iload hx hb dX10_digestText_34 (lv_at hl 3 rfl) ?_
      refine x_runi hw (x_V (n := 1) (rest := [.long ((31 : Int64) * v4)]) C hw hm3 (by decide) (eX8_tell hf hm3) q517 q518 q519 q55 q520 rfl rfl (by decide +kernel) ⟨Nat.le_of_ble_eq_true rfl, Nat.le_of_ble_eq_true rfl⟩ rfl hl.1 rfl (Nat.le_of_ble_eq_true rfl) dX10_digestText_36) (fun r4 σ3 H locs hf hw => ?_)
      try dsimp only at hf
      refine lv_i2l hx hb dX10_digestText_39 rfl ?_
      refine lv_ladd hx hb dX10_digestText_40 ?_
      refine lv_lstore (lv' := [(4, .long (((31 : Int64) * v4) + ((r4).toInt64))), (0, .ref (lay 10 0)), (3, .ref (lay 8 a3)), (6, .int v6)]) hx hb dX10_digestText_41 hl (by decide) rfl (fun ls hl => ?_)
      refine lv_iinc (v := (v6 + (1 : Int32))) (lv' := [(6, .int (v6 + (1 : Int32))), (4, .long (((31 : Int64) * v4) + ((r4).toInt64))), (0, .ref (lay 10 0)), (3, .ref (lay 8 a3))]) hx hb dX10_digestText_43 hl (k := 3) rfl (by rfl) (by decide) rfl (fun ls hl => ?_)
      refine lv_goto (tgt := 21) hx hb dX10_digestText_46 (by decide) ?_
      exact ih σ3 (((31 : Int64) * v4) + ((r4).toInt64)) (v6 + (1 : Int32)) _ _ _ hf hw (lv_sub hl [2, 3, 1, 0] rfl)
set_option maxHeartbeats 4000000 in
set_option maxRecDepth 100000 in
theorem eX10_digestText_l52 {p : Program} {l : Launch} {e : Env} {s : State} {m : MethodId} {args : Array Value} {below : List Frame} {meth : Method} {c : Code} {E : EC} {lay : Nat → Nat → Nat} {L : List (Nat × Nat)} {A : Nat → Prop} (C : Cx p s m args c meth yX10_digestText.cls cX10_digestText 7 E A) (hret : meth.sig.returnType = some .long) {N : Nat} {a1 : Int64} {a3 : Nat} {Q : Int64 → St → Prop} {Kx89 : St → Int64 → Prop} (hm0 : (10, 0) ∈ L) (hm3 : (8, a3) ∈ L) (hK89 : ∀ (σ : St) (w4 : Int64) (H : Heap) (locs : List Loc) (ls : Array Slot), Kx89 σ w4 → Wo E lay L A s σ H locs → lv_has ls 7 [(4, .long w4)] → W p l e rmX10_digestText s m args below meth c H locs 0 0 (MQ below (va_Ql Q (Bd E lay L A) A) args s 0 0 A) (F0 m 89 ls [])) : ∀ (n : Nat) (σ : St) (v4 : Int64) (v6 : Int32) (H : Heap) (locs : List Loc) (ls : Array Slot), fX10_digestText_l52 N a1 a3 Q Kx89 n σ v4 v6 → Wo E lay L A s σ H locs → lv_has ls 7 [(0, .ref (lay 10 0)), (3, .ref (lay 8 a3)), (4, .long v4), (6, .int v6)] → W p l e rmX10_digestText s m args below meth c H locs 0 0 (MQ below (va_Ql Q (Bd E lay L A) A) args s 0 0 A) (F0 m 52 ls []) := by
  have hx := C.1
  have hb := C.2.1
  intro n
  induction n with
  | zero => intro σ v4 v6 H locs ls hf; exact hf.elim
  | succ n ih =>
    intro σ v4 v6 H locs ls hf hw hl
    rw [fX10_digestText_l52] at hf
    refine lv_iload hx hb dX10_digestText_52 (lv_at hl 3 rfl) ?_
    refine lv_aload_n hx hb dX10_digestText_54 rfl (lv_at hl 0 rfl) ?_
    have hm_6 : (2, 0) ∈ L := hw.2.2.2.1 10 0 hm0 2 (by decide) (by decide) rfl
    refine x_get (v := .ref (lay 2 0)) (j := 2) C hw hm0 rfl (by decide) (by decide) rfl q291 dX10_digestText_55 ?_
    refine x_getN (v := .int (sF σ 2 0 2)) (j := 2) (host := "WhoseHand") C hw hm_6 rfl (by decide) (by decide) rfl q81 dX10_digestText_58 ?_
    refine lv_icmp_ge (tgt := 89) hx hb dX10_digestText_61 (by decide) (fun c7 => ?_) (fun c7 => ?_)
    · replace hf := hf.1 c7
      exact hK89 σ v4 _ _ _ hf hw (lv_sub hl [2] rfl)
    · replace hf := hf.2 c7
      refine lv_ldc2 (v := 31) hx hb C.2.2.2.1 (C.2.2.2.2.1 _ q864) dX10_digestText_64 ?_
      refine lv_lload hx hb dX10_digestText_67 (lv_at hl 2 rfl) ?_
      refine lv_lmul hx hb dX10_digestText_69 ?_
      refine lv_aload_n hx hb dX10_digestText_70 rfl (lv_at hl 1 rfl) ?_
      have hm_8 : (7, a3) ∈ L := hw.2.2.2.1 8 a3 hm3 4 (by decide) (by decide) rfl
      refine x_getN (v := .ref (lay 7 a3)) (j := 4) (host := "WhoseHand") C hw hm3 rfl (by decide) (by decide) rfl q417 dX10_digestText_71 ?_
      refine lv_iload hx hb dX10_digestText_74 (lv_at hl 3 rfl) ?_
      refine x_runi hw (x_V (n := 1) (rest := [.long ((31 : Int64) * v4)]) C hw hm_8 (by decide) (eX7_countOf hf hm_8) q583 q584 q585 q47 q586 rfl rfl (by decide +kernel) ⟨Nat.le_of_ble_eq_true rfl, Nat.le_of_ble_eq_true rfl⟩ rfl hl.1 rfl (Nat.le_of_ble_eq_true rfl) dX10_digestText_76) (fun r10 σ9 H locs hf hw => ?_)
      try dsimp only at hf
      refine lv_i2l hx hb dX10_digestText_79 rfl ?_
      refine lv_ladd hx hb dX10_digestText_80 ?_
      refine lv_lstore (lv' := [(4, .long (((31 : Int64) * v4) + ((r10).toInt64))), (0, .ref (lay 10 0)), (3, .ref (lay 8 a3)), (6, .int v6)]) hx hb dX10_digestText_81 hl (by decide) rfl (fun ls hl => ?_)
      refine lv_iinc (v := (v6 + (1 : Int32))) (lv' := [(6, .int (v6 + (1 : Int32))), (4, .long (((31 : Int64) * v4) + ((r10).toInt64))), (0, .ref (lay 10 0)), (3, .ref (lay 8 a3))]) hx hb dX10_digestText_83 hl (k := 3) rfl (by rfl) (by decide) rfl (fun ls hl => ?_)
      refine lv_goto (tgt := 52) hx hb dX10_digestText_86 (by decide) ?_
      exact ih σ9 (((31 : Int64) * v4) + ((r10).toInt64)) (v6 + (1 : Int32)) _ _ _ hf hw (lv_sub hl [2, 3, 1, 0] rfl)
def fX10_digestText (N : Nat) (σ : St) (a1 : Int64) (a3 : Nat) (Q : Int64 → St → Prop) : Prop := (((sF σ 8 a3 5) = 0 → fX10_digestText_l21 N a1 a3 Q (fun (σ5 : St) (u49_4 : Int64) => fX10_digestText_l52 N a1 a3 Q (fun (σ11 : St) (u89_4 : Int64) => Q u89_4 σ11) N σ5 u49_4 (0 : Int32)) N σ a1 (0 : Int32)) ∧ (¬ (sF σ 8 a3 5) = 0 → Q (((31 : Int64) * a1) - (1 : Int64)) σ))
set_option maxHeartbeats 4000000 in
set_option maxRecDepth 100000 in
theorem eX10_digestText {l : Launch} {E : EC} {lay : Nat → Nat → Nat} {L : List (Nat × Nat)} {A : Nat → Prop} {N : Nat} {σ : St} {a1 : Int64} {a3 : Nat} {Q : Int64 → St → Prop} (hf : fX10_digestText N σ a1 a3 Q) (hm0 : (10, 0) ∈ L) (hm3 : (8, a3) ∈ L) : Met l yX10_digestText (.code yX10_digestText cX10_digestText 7 (some .long) :: big) rmX10_digestText (va_Pc [.ref (lay 10 0), .long a1, .ref (lay 8 a3)] (Bp E lay L A σ)) (va_Ql Q (Bd E lay L A) A) 0 0 A := by
  refine x_met (by decide +kernel) (Nat.le_of_ble_eq_true rfl) ?_
  intro p e s m args below meth c ls C hret hw hl
  have hx := C.1
  have hb := C.2.1
  have hl : lv_has ls 7 [(0, .ref (lay 10 0)), (1, .long a1), (3, .ref (lay 8 a3))] := hl
  unfold fX10_digestText at hf
  refine lv_aload_n hx hb dX10_digestText_0 rfl (lv_at hl 2 rfl) ?_
  refine x_getN (v := .int (sF σ 8 a3 5)) (j := 5) (host := "WhoseHand") C hw hm3 rfl (by decide) (by decide) rfl q420 dX10_digestText_1 ?_
  refine lv_if_eq (tgt := 15) hx hb dX10_digestText_4 (by decide) (fun c1 => ?_) (fun c1 => ?_)
  · replace hf := hf.1 c1
    refine lv_lload_n hx hb dX10_digestText_15 rfl (lv_at hl 1 rfl) ?_
    refine lv_lstore (lv' := [(4, .long a1), (0, .ref (lay 10 0)), (1, .long a1), (3, .ref (lay 8 a3))]) hx hb dX10_digestText_16 hl (by decide) rfl (fun ls hl => ?_)
    refine lv_iconst (v := 0) hx hb dX10_digestText_18 (by decide) ?_
    refine lv_istore (lv' := [(6, .int (0 : Int32)), (4, .long a1), (0, .ref (lay 10 0)), (1, .long a1), (3, .ref (lay 8 a3))]) hx hb dX10_digestText_19 hl (by decide) rfl (fun ls hl => ?_)
    refine eX10_digestText_l21 C hret hm0 hm3 ?_ N σ a1 (0 : Int32) _ _ _ hf hw (lv_sub hl [2, 4, 1, 0] rfl)
    · intro σ5 u49_4 H locs ls hf hw hl
      refine lv_iconst (v := 0) hx hb dX10_digestText_49 (by decide) ?_
      refine lv_istore (lv' := [(6, .int (0 : Int32)), (0, .ref (lay 10 0)), (3, .ref (lay 8 a3)), (4, .long u49_4)]) hx hb dX10_digestText_50 hl (by decide) rfl (fun ls hl => ?_)
      refine eX10_digestText_l52 C hret hm0 hm3 ?_ N σ5 u49_4 (0 : Int32) _ _ _ hf hw (lv_sub hl [1, 2, 3, 0] rfl)
      · intro σ11 u89_4 H locs ls hf hw hl
        refine lv_lload hx hb dX10_digestText_89 (lv_at hl 0 rfl) ?_
        exact x_lret C hret hw hf dX10_digestText_91
  · replace hf := hf.2 c1
    refine lv_ldc2 (v := 31) hx hb C.2.2.2.1 (C.2.2.2.2.1 _ q864) dX10_digestText_7 ?_
    refine lv_lload_n hx hb dX10_digestText_10 rfl (lv_at hl 1 rfl) ?_
    refine lv_lmul hx hb dX10_digestText_11 ?_
    refine lv_lconst (v := 1) hx hb dX10_digestText_12 (by decide) ?_
    refine lv_lsub hx hb dX10_digestText_13 ?_
    exact x_lret C hret hw hf dX10_digestText_14
-- X10_digest
abbrev rmX10_digest : Room := { frames := 2, cells := 0, slots := 0, locals := 47 }
def fX10_digest_l6 (N : Nat) (Q : Int64 → St → Prop) (Kx30 : St → Int64 → Prop) : Nat → St → Int64 → Int32 → Prop
  | 0, _, _, _ => False
  | n + 1, σ, v1, v3 => (((4 : Int32) ≤ v3 → Kx30 σ v1) ∧ (¬ (4 : Int32) ≤ v3 → fX10_countedOf N σ v3 (fun (r3 : Int32) (σ2 : St) => fX10_digest_l6 N Q Kx30 n σ2 (((31 : Int64) * v1) + ((r3).toInt64)) (v3 + (1 : Int32)))))
def fX10_digest_b62_32 (N : Nat) (Q : Int64 → St → Prop) (Kh : St → Int64 → Int32 → Prop) (Kx68 : St → Int64 → Prop) (σ : St) (v1 : Int64) (v3 : Int32) : Prop := Kh σ v1 (v3 + (1 : Int32))
def fX10_digest_l32 (N : Nat) (Q : Int64 → St → Prop) (Kx68 : St → Int64 → Prop) : Nat → St → Int64 → Int32 → Prop
  | 0, _, _, _ => False
  | n + 1, σ, v1, v3 => (((14 : Int32) ≤ v3 → Kx68 σ v1) ∧ (¬ (14 : Int32) ≤ v3 → (vp_in v3 14 ∧ (((sR σ 21 0 (v3).toNatClampNeg) = none → fX10_digest_b62_32 N Q (fun (σ : St) (w1 : Int64) (w3 : Int32) => fX10_digest_l32 N Q Kx68 n σ w1 w3) Kx68 σ v1 v3) ∧ (∀ i9, (sR σ 21 0 (v3).toNatClampNeg) = some i9 → (vp_in v3 14 ∧ (∃ i13, (sR σ 21 0 (v3).toNatClampNeg) = some i13 ∧ fX10_digestText N σ v1 i13 (fun (r16 : Int64) (σ15 : St) => fX10_digest_b62_32 N Q (fun (σ : St) (w1 : Int64) (w3 : Int32) => fX10_digest_l32 N Q Kx68 n σ w1 w3) Kx68 σ15 r16 v3))))))))
def fX10_digest_l70 (N : Nat) (Q : Int64 → St → Prop) (Kx96 : St → Int64 → Prop) : Nat → St → Int64 → Int32 → Prop
  | 0, _, _, _ => False
  | n + 1, σ, v1, v3 => (((4 : Int32) ≤ v3 → Kx96 σ v1) ∧ (¬ (4 : Int32) ≤ v3 → (vp_in v3 4 ∧ (∃ i22, (sR σ 20 0 (v3).toNatClampNeg) = some i22 ∧ fX5_digestAfter N σ i22 v1 (fun (r25 : Int64) (σ24 : St) => fX10_digest_l70 N Q Kx96 n σ24 r25 (v3 + (1 : Int32)))))))
set_option maxHeartbeats 4000000 in
set_option maxRecDepth 100000 in
theorem eX10_digest_l6 {p : Program} {l : Launch} {e : Env} {s : State} {m : MethodId} {args : Array Value} {below : List Frame} {meth : Method} {c : Code} {E : EC} {lay : Nat → Nat → Nat} {L : List (Nat × Nat)} {A : Nat → Prop} (C : Cx p s m args c meth yX10_digest.cls cX10_digest 4 E A) (hret : meth.sig.returnType = some .long) {N : Nat} {Q : Int64 → St → Prop} {Kx30 : St → Int64 → Prop} (hm0 : (10, 0) ∈ L) (hK30 : ∀ (σ : St) (w1 : Int64) (H : Heap) (locs : List Loc) (ls : Array Slot), Kx30 σ w1 → Wo E lay L A s σ H locs → lv_has ls 4 [(0, .ref (lay 10 0)), (1, .long w1)] → W p l e rmX10_digest s m args below meth c H locs 0 0 (MQ below (va_Ql Q (Bd E lay L A) A) args s 0 0 A) (F0 m 30 ls [])) : ∀ (n : Nat) (σ : St) (v1 : Int64) (v3 : Int32) (H : Heap) (locs : List Loc) (ls : Array Slot), fX10_digest_l6 N Q Kx30 n σ v1 v3 → Wo E lay L A s σ H locs → lv_has ls 4 [(0, .ref (lay 10 0)), (1, .long v1), (3, .int v3)] → W p l e rmX10_digest s m args below meth c H locs 0 0 (MQ below (va_Ql Q (Bd E lay L A) A) args s 0 0 A) (F0 m 6 ls []) := by
  have hx := C.1
  have hb := C.2.1
  intro n
  induction n with
  | zero => intro σ v1 v3 H locs ls hf; exact hf.elim
  | succ n ih =>
    intro σ v1 v3 H locs ls hf hw hl
    rw [fX10_digest_l6] at hf
    refine lv_iload_n hx hb dX10_digest_6 rfl (lv_at hl 2 rfl) ?_
    refine lv_iconst (v := 4) hx hb dX10_digest_7 (by decide) ?_
    refine lv_icmp_ge (tgt := 30) hx hb dX10_digest_8 (by decide) (fun c1 => ?_) (fun c1 => ?_)
    · replace hf := hf.1 c1
      exact hK30 σ v1 _ _ _ hf hw (lv_sub hl [0, 1] rfl)
    · replace hf := hf.2 c1
      refine lv_ldc2 (v := 31) hx hb C.2.2.2.1 (C.2.2.2.2.1 _ q864) dX10_digest_11 ?_
      refine lv_lload_n hx hb dX10_digest_14 rfl (lv_at hl 1 rfl) ?_
      refine lv_lmul hx hb dX10_digest_15 ?_
      refine lv_aload_n hx hb dX10_digest_16 rfl (lv_at hl 0 rfl) ?_
      refine lv_iload_n hx hb dX10_digest_17 rfl (lv_at hl 2 rfl) ?_
      refine x_runi hw (x_V (n := 1) (rest := [.long ((31 : Int64) * v1)]) C hw hm0 (by decide) (eX10_countedOf hf hm0) q843 q845 q19 q44 q846 rfl rfl (by decide +kernel) ⟨Nat.le_of_ble_eq_true rfl, Nat.le_of_ble_eq_true rfl⟩ rfl hl.1 rfl (Nat.le_of_ble_eq_true rfl) dX10_digest_18) (fun r3 σ2 H locs hf hw => ?_)
      try dsimp only at hf
      refine lv_i2l hx hb dX10_digest_21 rfl ?_
      refine lv_ladd hx hb dX10_digest_22 ?_
      refine lv_lstore_n (lv' := [(1, .long (((31 : Int64) * v1) + ((r3).toInt64))), (0, .ref (lay 10 0)), (3, .int v3)]) hx hb dX10_digest_23 rfl hl (by decide) rfl (fun ls hl => ?_)
      refine lv_iinc (v := (v3 + (1 : Int32))) (lv' := [(3, .int (v3 + (1 : Int32))), (1, .long (((31 : Int64) * v1) + ((r3).toInt64))), (0, .ref (lay 10 0))]) hx hb dX10_digest_24 hl (k := 2) rfl (by rfl) (by decide) rfl (fun ls hl => ?_)
      refine lv_goto (tgt := 6) hx hb dX10_digest_27 (by decide) ?_
      exact ih σ2 (((31 : Int64) * v1) + ((r3).toInt64)) (v3 + (1 : Int32)) _ _ _ hf hw (lv_sub hl [2, 1, 0] rfl)
set_option maxHeartbeats 4000000 in
set_option maxRecDepth 100000 in
theorem eX10_digest_b62_32 {p : Program} {l : Launch} {e : Env} {s : State} {m : MethodId} {args : Array Value} {below : List Frame} {meth : Method} {c : Code} {E : EC} {lay : Nat → Nat → Nat} {L : List (Nat × Nat)} {A : Nat → Prop} (C : Cx p s m args c meth yX10_digest.cls cX10_digest 4 E A) (hret : meth.sig.returnType = some .long) {N : Nat} {Q : Int64 → St → Prop} {Kh : St → Int64 → Int32 → Prop} {Kx68 : St → Int64 → Prop} (hm0 : (10, 0) ∈ L) (hKh : ∀ (σ : St) (w1 : Int64) (w3 : Int32) (H : Heap) (locs : List Loc) (ls : Array Slot), Kh σ w1 w3 → Wo E lay L A s σ H locs → lv_has ls 4 [(0, .ref (lay 10 0)), (1, .long w1), (3, .int w3)] → W p l e rmX10_digest s m args below meth c H locs 0 0 (MQ below (va_Ql Q (Bd E lay L A) A) args s 0 0 A) (F0 m 32 ls [])) (hK68 : ∀ (σ : St) (w1 : Int64) (H : Heap) (locs : List Loc) (ls : Array Slot), Kx68 σ w1 → Wo E lay L A s σ H locs → lv_has ls 4 [(0, .ref (lay 10 0)), (1, .long w1)] → W p l e rmX10_digest s m args below meth c H locs 0 0 (MQ below (va_Ql Q (Bd E lay L A) A) args s 0 0 A) (F0 m 68 ls [])) (σ : St) (v1 : Int64) (v3 : Int32) (H : Heap) (locs : List Loc) (ls : Array Slot) (hf : fX10_digest_b62_32 N Q Kh Kx68 σ v1 v3) (hw : Wo E lay L A s σ H locs) (hl : lv_has ls 4 [(0, .ref (lay 10 0)), (1, .long v1), (3, .int v3)]) : W p l e rmX10_digest s m args below meth c H locs 0 0 (MQ below (va_Ql Q (Bd E lay L A) A) args s 0 0 A) (F0 m 62 ls []) := by
  have hx := C.1
  have hb := C.2.1
  unfold fX10_digest_b62_32 at hf
  refine lv_iinc (v := (v3 + (1 : Int32))) (lv' := [(3, .int (v3 + (1 : Int32))), (0, .ref (lay 10 0)), (1, .long v1)]) hx hb dX10_digest_62 hl (k := 2) rfl (by rfl) (by decide) rfl (fun ls hl => ?_)
  refine lv_goto (tgt := 32) hx hb dX10_digest_65 (by decide) ?_
  exact hKh σ v1 (v3 + (1 : Int32)) _ _ _ hf hw (lv_sub hl [1, 2, 0] rfl)
set_option maxHeartbeats 4000000 in
set_option maxRecDepth 100000 in
theorem eX10_digest_l32 {p : Program} {l : Launch} {e : Env} {s : State} {m : MethodId} {args : Array Value} {below : List Frame} {meth : Method} {c : Code} {E : EC} {lay : Nat → Nat → Nat} {L : List (Nat × Nat)} {A : Nat → Prop} (C : Cx p s m args c meth yX10_digest.cls cX10_digest 4 E A) (hret : meth.sig.returnType = some .long) {N : Nat} {Q : Int64 → St → Prop} {Kx68 : St → Int64 → Prop} (hm0 : (10, 0) ∈ L) (hK68 : ∀ (σ : St) (w1 : Int64) (H : Heap) (locs : List Loc) (ls : Array Slot), Kx68 σ w1 → Wo E lay L A s σ H locs → lv_has ls 4 [(0, .ref (lay 10 0)), (1, .long w1)] → W p l e rmX10_digest s m args below meth c H locs 0 0 (MQ below (va_Ql Q (Bd E lay L A) A) args s 0 0 A) (F0 m 68 ls [])) : ∀ (n : Nat) (σ : St) (v1 : Int64) (v3 : Int32) (H : Heap) (locs : List Loc) (ls : Array Slot), fX10_digest_l32 N Q Kx68 n σ v1 v3 → Wo E lay L A s σ H locs → lv_has ls 4 [(0, .ref (lay 10 0)), (1, .long v1), (3, .int v3)] → W p l e rmX10_digest s m args below meth c H locs 0 0 (MQ below (va_Ql Q (Bd E lay L A) A) args s 0 0 A) (F0 m 32 ls []) := by
  have hx := C.1
  have hb := C.2.1
  intro n
  induction n with
  | zero => intro σ v1 v3 H locs ls hf; exact hf.elim
  | succ n ih =>
    intro σ v1 v3 H locs ls hf hw hl
    rw [fX10_digest_l32] at hf
    refine lv_iload_n hx hb dX10_digest_32 rfl (lv_at hl 2 rfl) ?_
    refine lv_aload_n hx hb dX10_digest_33 rfl (lv_at hl 0 rfl) ?_
    have hm_5 : (21, 0) ∈ L := hw.2.2.2.1 10 0 hm0 1 (by decide) (by decide) rfl
    refine x_get (v := .ref (lay 21 0)) (j := 1) C hw hm0 rfl (by decide) (by decide) rfl q290 dX10_digest_34 ?_
    refine x_alen (v := 14) C hw hm_5 (by decide) (by decide) (by decide) dX10_digest_37 ?_
    refine lv_icmp_ge (tgt := 68) hx hb dX10_digest_38 (by decide) (fun c6 => ?_) (fun c6 => ?_)
    · replace hf := hf.1 c6
      exact hK68 σ v1 _ _ _ hf hw (lv_sub hl [0, 1] rfl)
    · replace hf := hf.2 c6
      refine lv_aload_n hx hb dX10_digest_41 rfl (lv_at hl 0 rfl) ?_
      have hm_7 : (21, 0) ∈ L := hw.2.2.2.1 10 0 hm0 1 (by decide) (by decide) rfl
      refine x_get (v := .ref (lay 21 0)) (j := 1) C hw hm0 rfl (by decide) (by decide) rfl q290 dX10_digest_42 ?_
      refine lv_iload_n hx hb dX10_digest_45 rfl (lv_at hl 2 rfl) ?_
      have hO_8 : ∀ i, (sR σ 21 0 (v3).toNatClampNeg) = some i → (8, i) ∈ L := fun i h => hw.2.2.2.2 21 _ _ i h
      refine x_aald (t := 5) (T := 8) C hw hm_7 (by decide) rfl (by decide) rfl hf.1 rfl dX10_digest_46 ?_
      replace hf := hf.2
      refine x_ifnull (r := (sR σ 21 0 (v3).toNatClampNeg)) (tgt := 62) hx hb dX10_digest_47 (by decide) (fun eni9 => ?_) (fun i9 eni9 => ?_)
      · replace hf := hf.1 eni9
        exact eX10_digest_b62_32 C hret hm0 ih hK68 σ v1 v3 _ _ _ hf hw (lv_sub hl [0, 1, 2] rfl)
      · replace hf := hf.2 i9 eni9
        have hn_10 := hO_8 i9 eni9
        try rw [eni9]
        refine lv_aload_n hx hb dX10_digest_50 rfl (lv_at hl 0 rfl) ?_
        refine lv_lload_n hx hb dX10_digest_51 rfl (lv_at hl 1 rfl) ?_
        refine lv_aload_n hx hb dX10_digest_52 rfl (lv_at hl 0 rfl) ?_
        have hm_11 : (21, 0) ∈ L := hw.2.2.2.1 10 0 hm0 1 (by decide) (by decide) rfl
        refine x_get (v := .ref (lay 21 0)) (j := 1) C hw hm0 rfl (by decide) (by decide) rfl q290 dX10_digest_53 ?_
        refine lv_iload_n hx hb dX10_digest_56 rfl (lv_at hl 2 rfl) ?_
        have hO_12 : ∀ i, (sR σ 21 0 (v3).toNatClampNeg) = some i → (8, i) ∈ L := fun i h => hw.2.2.2.2 21 _ _ i h
        refine x_aald (t := 5) (T := 8) C hw hm_11 (by decide) rfl (by decide) rfl hf.1 rfl dX10_digest_57 ?_
        replace hf := hf.2
        obtain ⟨i13, eni13, hf⟩ := hf
        have hn_14 := hO_12 i13 eni13
        rw [show rf lay 8 (sR σ 21 0 (v3).toNatClampNeg) = .ref (lay 8 i13) from by rw [eni13]; rfl]
        refine x_runl hw (x_V (n := 2) (rest := []) C hw hm0 (by decide) (eX10_digestText hf hm0 hn_14) q865 q867 q21 q44 q868 rfl rfl (by decide +kernel) ⟨Nat.le_of_ble_eq_true rfl, Nat.le_of_ble_eq_true rfl⟩ rfl hl.1 rfl (Nat.le_of_ble_eq_true rfl) dX10_digest_58) (fun r16 σ15 H locs hf hw => ?_)
        try dsimp only at hf
        refine lv_lstore_n (lv' := [(1, .long r16), (0, .ref (lay 10 0)), (3, .int v3)]) hx hb dX10_digest_61 rfl hl (by decide) rfl (fun ls hl => ?_)
        exact eX10_digest_b62_32 C hret hm0 ih hK68 σ15 r16 v3 _ _ _ hf hw (lv_sub hl [1, 0, 2] rfl)
set_option maxHeartbeats 4000000 in
set_option maxRecDepth 100000 in
theorem eX10_digest_l70 {p : Program} {l : Launch} {e : Env} {s : State} {m : MethodId} {args : Array Value} {below : List Frame} {meth : Method} {c : Code} {E : EC} {lay : Nat → Nat → Nat} {L : List (Nat × Nat)} {A : Nat → Prop} (C : Cx p s m args c meth yX10_digest.cls cX10_digest 4 E A) (hret : meth.sig.returnType = some .long) {N : Nat} {Q : Int64 → St → Prop} {Kx96 : St → Int64 → Prop} (hm0 : (10, 0) ∈ L) (hK96 : ∀ (σ : St) (w1 : Int64) (H : Heap) (locs : List Loc) (ls : Array Slot), Kx96 σ w1 → Wo E lay L A s σ H locs → lv_has ls 4 [(1, .long w1)] → W p l e rmX10_digest s m args below meth c H locs 0 0 (MQ below (va_Ql Q (Bd E lay L A) A) args s 0 0 A) (F0 m 96 ls [])) : ∀ (n : Nat) (σ : St) (v1 : Int64) (v3 : Int32) (H : Heap) (locs : List Loc) (ls : Array Slot), fX10_digest_l70 N Q Kx96 n σ v1 v3 → Wo E lay L A s σ H locs → lv_has ls 4 [(0, .ref (lay 10 0)), (1, .long v1), (3, .int v3)] → W p l e rmX10_digest s m args below meth c H locs 0 0 (MQ below (va_Ql Q (Bd E lay L A) A) args s 0 0 A) (F0 m 70 ls []) := by
  have hx := C.1
  have hb := C.2.1
  intro n
  induction n with
  | zero => intro σ v1 v3 H locs ls hf; exact hf.elim
  | succ n ih =>
    intro σ v1 v3 H locs ls hf hw hl
    rw [fX10_digest_l70] at hf
    refine lv_iload_n hx hb dX10_digest_70 rfl (lv_at hl 2 rfl) ?_
    refine lv_aload_n hx hb dX10_digest_71 rfl (lv_at hl 0 rfl) ?_
    have hm_18 : (20, 0) ∈ L := hw.2.2.2.1 10 0 hm0 0 (by decide) (by decide) rfl
    refine x_get (v := .ref (lay 20 0)) (j := 0) C hw hm0 rfl (by decide) (by decide) rfl q289 dX10_digest_72 ?_
    refine x_alen (v := 4) C hw hm_18 (by decide) (by decide) (by decide) dX10_digest_75 ?_
    refine lv_icmp_ge (tgt := 96) hx hb dX10_digest_76 (by decide) (fun c19 => ?_) (fun c19 => ?_)
    · replace hf := hf.1 c19
      exact hK96 σ v1 _ _ _ hf hw (lv_sub hl [1] rfl)
    · replace hf := hf.2 c19
      refine lv_aload_n hx hb dX10_digest_79 rfl (lv_at hl 0 rfl) ?_
      have hm_20 : (20, 0) ∈ L := hw.2.2.2.1 10 0 hm0 0 (by decide) (by decide) rfl
      refine x_get (v := .ref (lay 20 0)) (j := 0) C hw hm0 rfl (by decide) (by decide) rfl q289 dX10_digest_80 ?_
      refine lv_iload_n hx hb dX10_digest_83 rfl (lv_at hl 2 rfl) ?_
      have hO_21 : ∀ i, (sR σ 20 0 (v3).toNatClampNeg) = some i → (5, i) ∈ L := fun i h => hw.2.2.2.2 20 _ _ i h
      refine x_aald (t := 4) (T := 5) C hw hm_20 (by decide) rfl (by decide) rfl hf.1 rfl dX10_digest_84 ?_
      replace hf := hf.2
      refine lv_lload_n hx hb dX10_digest_85 rfl (lv_at hl 1 rfl) ?_
      obtain ⟨i22, eni22, hf⟩ := hf
      have hn_23 := hO_21 i22 eni22
      rw [show rf lay 5 (sR σ 20 0 (v3).toNatClampNeg) = .ref (lay 5 i22) from by rw [eni22]; rfl]
      refine x_runl hw (x_V (n := 1) (rest := []) C hw hn_23 (by decide) (eX5_digestAfter hf hn_23) q869 q870 q871 q52 q872 rfl rfl (by decide +kernel) ⟨Nat.le_of_ble_eq_true rfl, Nat.le_of_ble_eq_true rfl⟩ rfl hl.1 rfl (Nat.le_of_ble_eq_true rfl) dX10_digest_86) (fun r25 σ24 H locs hf hw => ?_)
      try dsimp only at hf
      refine lv_lstore_n (lv' := [(1, .long r25), (0, .ref (lay 10 0)), (3, .int v3)]) hx hb dX10_digest_89 rfl hl (by decide) rfl (fun ls hl => ?_)
      refine lv_iinc (v := (v3 + (1 : Int32))) (lv' := [(3, .int (v3 + (1 : Int32))), (1, .long r25), (0, .ref (lay 10 0))]) hx hb dX10_digest_90 hl (k := 2) rfl (by rfl) (by decide) rfl (fun ls hl => ?_)
      refine lv_goto (tgt := 70) hx hb dX10_digest_93 (by decide) ?_
      exact ih σ24 r25 (v3 + (1 : Int32)) _ _ _ hf hw (lv_sub hl [2, 1, 0] rfl)
def fX10_digest (N : Nat) (σ : St) (Q : Int64 → St → Prop) : Prop := fX10_digest_l6 N Q (fun (σ4 : St) (u30_1 : Int64) => fX10_digest_l32 N Q (fun (σ17 : St) (u68_1 : Int64) => fX10_digest_l70 N Q (fun (σ26 : St) (u96_1 : Int64) => Q u96_1 σ26) N σ17 u68_1 (0 : Int32)) N σ4 u30_1 (0 : Int32)) N σ (17 : Int64) (0 : Int32)
set_option maxHeartbeats 4000000 in
set_option maxRecDepth 100000 in
theorem eX10_digest {l : Launch} {E : EC} {lay : Nat → Nat → Nat} {L : List (Nat × Nat)} {A : Nat → Prop} {N : Nat} {σ : St} {Q : Int64 → St → Prop} (hf : fX10_digest N σ Q) (hm0 : (10, 0) ∈ L) : Met l yX10_digest (.code yX10_digest cX10_digest 4 (some .long) :: big) rmX10_digest (va_Pc [.ref (lay 10 0)] (Bp E lay L A σ)) (va_Ql Q (Bd E lay L A) A) 0 0 A := by
  refine x_met (by decide +kernel) (Nat.le_of_ble_eq_true rfl) ?_
  intro p e s m args below meth c ls C hret hw hl
  have hx := C.1
  have hb := C.2.1
  have hl : lv_has ls 4 [(0, .ref (lay 10 0))] := hl
  unfold fX10_digest at hf
  refine lv_ldc2 (v := 17) hx hb C.2.2.2.1 (C.2.2.2.2.1 _ q863) dX10_digest_0 ?_
  refine lv_lstore_n (lv' := [(1, .long (17 : Int64)), (0, .ref (lay 10 0))]) hx hb dX10_digest_3 rfl hl (by decide) rfl (fun ls hl => ?_)
  refine lv_iconst (v := 0) hx hb dX10_digest_4 (by decide) ?_
  refine lv_istore_n (lv' := [(3, .int (0 : Int32)), (1, .long (17 : Int64)), (0, .ref (lay 10 0))]) hx hb dX10_digest_5 rfl hl (by decide) rfl (fun ls hl => ?_)
  refine eX10_digest_l6 C hret hm0 ?_ N σ (17 : Int64) (0 : Int32) _ _ _ hf hw (lv_sub hl [2, 1, 0] rfl)
  · intro σ4 u30_1 H locs ls hf hw hl
    refine lv_iconst (v := 0) hx hb dX10_digest_30 (by decide) ?_
    refine lv_istore_n (lv' := [(3, .int (0 : Int32)), (0, .ref (lay 10 0)), (1, .long u30_1)]) hx hb dX10_digest_31 rfl hl (by decide) rfl (fun ls hl => ?_)
    refine eX10_digest_l32 C hret hm0 ?_ N σ4 u30_1 (0 : Int32) _ _ _ hf hw (lv_sub hl [1, 2, 0] rfl)
    · intro σ17 u68_1 H locs ls hf hw hl
      refine lv_iconst (v := 0) hx hb dX10_digest_68 (by decide) ?_
      refine lv_istore_n (lv' := [(3, .int (0 : Int32)), (0, .ref (lay 10 0)), (1, .long u68_1)]) hx hb dX10_digest_69 rfl hl (by decide) rfl (fun ls hl => ?_)
      refine eX10_digest_l70 C hret hm0 ?_ N σ17 u68_1 (0 : Int32) _ _ _ hf hw (lv_sub hl [1, 2, 0] rfl)
      · intro σ26 u96_1 H locs ls hf hw hl
        refine lv_lload_n hx hb dX10_digest_96 rfl (lv_at hl 0 rfl) ?_
        exact x_lret C hret hw hf dX10_digest_97
