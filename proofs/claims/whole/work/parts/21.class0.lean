-- X4_lengthOf
abbrev rmX4_lengthOf : Room := { frames := 0, cells := 0, slots := 0, locals := 0 }
def fX4_lengthOf (N : Nat) (σ : St) (a0 : Nat) (a1 : Int32) (Q : Int32 → St → Prop) : Prop := ((a1 < 0 → Q (0 : Int32) σ) ∧ (¬ a1 < 0 → (((sF σ 4 a0 4) ≤ a1 → Q (0 : Int32) σ) ∧ (¬ (sF σ 4 a0 4) ≤ a1 → (((100 : Int32) ≤ a1 → Q (0 : Int32) σ) ∧ (¬ (100 : Int32) ≤ a1 → (vp_in a1 100 ∧ Q (sA σ 27 a0 (a1).toNatClampNeg) σ)))))))
set_option maxHeartbeats 4000000 in
set_option maxRecDepth 100000 in
theorem eX4_lengthOf {l : Launch} {E : EC} {lay : Nat → Nat → Nat} {L : List (Nat × Nat)} {A : Nat → Prop} {N : Nat} {σ : St} {a0 : Nat} {a1 : Int32} {Q : Int32 → St → Prop} (hf : fX4_lengthOf N σ a0 a1 Q) (hm0 : (4, a0) ∈ L) : Met l yX4_lengthOf (.code yX4_lengthOf cX4_lengthOf 2 (some .int) :: big) rmX4_lengthOf (va_Pc [.ref (lay 4 a0), .int a1] (Bp E lay L A σ)) (va_Qi Q (Bd E lay L A) A) 0 0 A := by
  refine x_met (by decide +kernel) (Nat.le_of_ble_eq_true rfl) ?_
  intro p e s m args below meth c ls C hret hw hl
  have hx := C.1
  have hb := C.2.1
  have hl : lv_has ls 2 [(0, .ref (lay 4 a0)), (1, .int a1)] := hl
  unfold fX4_lengthOf at hf
  refine lv_iload_n hx hb dX4_lengthOf_0 rfl (lv_at hl 1 rfl) ?_
  refine lv_if_lt (tgt := 30) hx hb dX4_lengthOf_1 (by decide) (fun c1 => ?_) (fun c1 => ?_)
  · replace hf := hf.1 c1
    refine lv_iconst (v := 0) hx hb dX4_lengthOf_30 (by decide) ?_
    exact x_iret C hret hw hf dX4_lengthOf_31
  · replace hf := hf.2 c1
    refine lv_iload_n hx hb dX4_lengthOf_4 rfl (lv_at hl 1 rfl) ?_
    refine lv_aload_n hx hb dX4_lengthOf_5 rfl (lv_at hl 0 rfl) ?_
    refine x_get (v := .int (sF σ 4 a0 4)) (j := 4) C hw hm0 rfl (by decide) (by decide) rfl q247 dX4_lengthOf_6 ?_
    refine lv_icmp_ge (tgt := 30) hx hb dX4_lengthOf_9 (by decide) (fun c2 => ?_) (fun c2 => ?_)
    · replace hf := hf.1 c2
      refine lv_iconst (v := 0) hx hb dX4_lengthOf_30 (by decide) ?_
      exact x_iret C hret hw hf dX4_lengthOf_31
    · replace hf := hf.2 c2
      refine lv_iload_n hx hb dX4_lengthOf_12 rfl (lv_at hl 1 rfl) ?_
      refine lv_aload_n hx hb dX4_lengthOf_13 rfl (lv_at hl 0 rfl) ?_
      have hm_3 : (27, a0) ∈ L := hw.2.2.2.1 4 a0 hm0 2 (by decide) (by decide) rfl
      refine x_get (v := .ref (lay 27 a0)) (j := 2) C hw hm0 rfl (by decide) (by decide) rfl q243 dX4_lengthOf_14 ?_
      refine x_alen (v := 100) C hw hm_3 (by decide) (by decide) (by decide) dX4_lengthOf_17 ?_
      refine lv_icmp_ge (tgt := 30) hx hb dX4_lengthOf_18 (by decide) (fun c4 => ?_) (fun c4 => ?_)
      · replace hf := hf.1 c4
        refine lv_iconst (v := 0) hx hb dX4_lengthOf_30 (by decide) ?_
        exact x_iret C hret hw hf dX4_lengthOf_31
      · replace hf := hf.2 c4
        refine lv_aload_n hx hb dX4_lengthOf_21 rfl (lv_at hl 0 rfl) ?_
        have hm_5 : (27, a0) ∈ L := hw.2.2.2.1 4 a0 hm0 2 (by decide) (by decide) rfl
        refine x_get (v := .ref (lay 27 a0)) (j := 2) C hw hm0 rfl (by decide) (by decide) rfl q243 dX4_lengthOf_22 ?_
        refine lv_iload_n hx hb dX4_lengthOf_25 rfl (lv_at hl 1 rfl) ?_
        refine x_iald C hw hm_5 (by decide) rfl hf.1 dX4_lengthOf_26 ?_
        replace hf := hf.2
        refine lv_goto (tgt := 31) hx hb dX4_lengthOf_27 (by decide) ?_
        exact x_iret C hret hw hf dX4_lengthOf_31
-- X4_letterOf
abbrev rmX4_letterOf : Room := { frames := 0, cells := 0, slots := 0, locals := 0 }
def fX4_letterOf (N : Nat) (σ : St) (a0 : Nat) (a1 : Int32) (a2 : Int32) (Q : Int32 → St → Prop) : Prop := ((a1 < 0 → Q (32 : Int32) σ) ∧ (¬ a1 < 0 → (((sF σ 4 a0 4) ≤ a1 → Q (32 : Int32) σ) ∧ (¬ (sF σ 4 a0 4) ≤ a1 → ((a1 < (100 : Int32) → ((a2 < 0 → Q (32 : Int32) σ) ∧ (¬ a2 < 0 → (vp_in a1 100 ∧ ((a2 < (sA σ 27 a0 (a1).toNatClampNeg) → (vp_in a1 100 ∧ ((((sA σ 26 a0 (a1).toNatClampNeg) + a2) < 0 → Q (32 : Int32) σ) ∧ (¬ ((sA σ 26 a0 (a1).toNatClampNeg) + a2) < 0 → (((200 : Int32) ≤ ((sA σ 26 a0 (a1).toNatClampNeg) + a2) → Q (32 : Int32) σ) ∧ (¬ (200 : Int32) ≤ ((sA σ 26 a0 (a1).toNatClampNeg) + a2) → (vp_in ((sA σ 26 a0 (a1).toNatClampNeg) + a2) 200 ∧ Q (sA σ 25 a0 (((sA σ 26 a0 (a1).toNatClampNeg) + a2)).toNatClampNeg) σ))))))) ∧ (¬ a2 < (sA σ 27 a0 (a1).toNatClampNeg) → Q (32 : Int32) σ)))))) ∧ (¬ a1 < (100 : Int32) → Q (32 : Int32) σ))))))
set_option maxHeartbeats 4000000 in
set_option maxRecDepth 100000 in
theorem eX4_letterOf {l : Launch} {E : EC} {lay : Nat → Nat → Nat} {L : List (Nat × Nat)} {A : Nat → Prop} {N : Nat} {σ : St} {a0 : Nat} {a1 : Int32} {a2 : Int32} {Q : Int32 → St → Prop} (hf : fX4_letterOf N σ a0 a1 a2 Q) (hm0 : (4, a0) ∈ L) : Met l yX4_letterOf (.code yX4_letterOf cX4_letterOf 4 (some .int) :: big) rmX4_letterOf (va_Pc [.ref (lay 4 a0), .int a1, .int a2] (Bp E lay L A σ)) (va_Qi Q (Bd E lay L A) A) 0 0 A := by
  refine x_met (by decide +kernel) (Nat.le_of_ble_eq_true rfl) ?_
  intro p e s m args below meth c ls C hret hw hl
  have hx := C.1
  have hb := C.2.1
  have hl : lv_has ls 4 [(0, .ref (lay 4 a0)), (1, .int a1), (2, .int a2)] := hl
  unfold fX4_letterOf at hf
  refine lv_iload_n hx hb dX4_letterOf_0 rfl (lv_at hl 1 rfl) ?_
  refine lv_if_lt (tgt := 18) hx hb dX4_letterOf_1 (by decide) (fun c1 => ?_) (fun c1 => ?_)
  · replace hf := hf.1 c1
    refine lv_bipush (v := 32) hx hb dX4_letterOf_18 (by decide) ?_
    exact x_iret C hret hw hf dX4_letterOf_20
  · replace hf := hf.2 c1
    refine lv_iload_n hx hb dX4_letterOf_4 rfl (lv_at hl 1 rfl) ?_
    refine lv_aload_n hx hb dX4_letterOf_5 rfl (lv_at hl 0 rfl) ?_
    refine x_get (v := .int (sF σ 4 a0 4)) (j := 4) C hw hm0 rfl (by decide) (by decide) rfl q247 dX4_letterOf_6 ?_
    refine lv_icmp_ge (tgt := 18) hx hb dX4_letterOf_9 (by decide) (fun c2 => ?_) (fun c2 => ?_)
    · replace hf := hf.1 c2
      refine lv_bipush (v := 32) hx hb dX4_letterOf_18 (by decide) ?_
      exact x_iret C hret hw hf dX4_letterOf_20
    · replace hf := hf.2 c2
      refine lv_iload_n hx hb dX4_letterOf_12 rfl (lv_at hl 1 rfl) ?_
      refine lv_bipush (v := 100) hx hb dX4_letterOf_13 (by decide) ?_
      refine lv_icmp_lt (tgt := 21) hx hb dX4_letterOf_15 (by decide) (fun c3 => ?_) (fun c3 => ?_)
      · replace hf := hf.1 c3
        refine lv_iload_n hx hb dX4_letterOf_21 rfl (lv_at hl 2 rfl) ?_
        refine lv_if_lt (tgt := 35) hx hb dX4_letterOf_22 (by decide) (fun c4 => ?_) (fun c4 => ?_)
        · replace hf := hf.1 c4
          refine lv_bipush (v := 32) hx hb dX4_letterOf_35 (by decide) ?_
          exact x_iret C hret hw hf dX4_letterOf_37
        · replace hf := hf.2 c4
          refine lv_iload_n hx hb dX4_letterOf_25 rfl (lv_at hl 2 rfl) ?_
          refine lv_aload_n hx hb dX4_letterOf_26 rfl (lv_at hl 0 rfl) ?_
          have hm_5 : (27, a0) ∈ L := hw.2.2.2.1 4 a0 hm0 2 (by decide) (by decide) rfl
          refine x_get (v := .ref (lay 27 a0)) (j := 2) C hw hm0 rfl (by decide) (by decide) rfl q243 dX4_letterOf_27 ?_
          refine lv_iload_n hx hb dX4_letterOf_30 rfl (lv_at hl 1 rfl) ?_
          refine x_iald C hw hm_5 (by decide) rfl hf.1 dX4_letterOf_31 ?_
          replace hf := hf.2
          refine lv_icmp_lt (tgt := 38) hx hb dX4_letterOf_32 (by decide) (fun c6 => ?_) (fun c6 => ?_)
          · replace hf := hf.1 c6
            refine lv_aload_n hx hb dX4_letterOf_38 rfl (lv_at hl 0 rfl) ?_
            have hm_7 : (26, a0) ∈ L := hw.2.2.2.1 4 a0 hm0 1 (by decide) (by decide) rfl
            refine x_get (v := .ref (lay 26 a0)) (j := 1) C hw hm0 rfl (by decide) (by decide) rfl q242 dX4_letterOf_39 ?_
            refine lv_iload_n hx hb dX4_letterOf_42 rfl (lv_at hl 1 rfl) ?_
            refine x_iald C hw hm_7 (by decide) rfl hf.1 dX4_letterOf_43 ?_
            replace hf := hf.2
            refine lv_iload_n hx hb dX4_letterOf_44 rfl (lv_at hl 2 rfl) ?_
            refine lv_iadd hx hb dX4_letterOf_45 ?_
            refine lv_istore_n (lv' := [(3, .int ((sA σ 26 a0 (a1).toNatClampNeg) + a2)), (0, .ref (lay 4 a0)), (1, .int a1), (2, .int a2)]) hx hb dX4_letterOf_46 rfl hl (by decide) rfl (fun ls hl => ?_)
            refine lv_iload_n hx hb dX4_letterOf_47 rfl (lv_at hl 0 rfl) ?_
            refine lv_if_lt (tgt := 69) hx hb dX4_letterOf_48 (by decide) (fun c8 => ?_) (fun c8 => ?_)
            · replace hf := hf.1 c8
              refine lv_bipush (v := 32) hx hb dX4_letterOf_69 (by decide) ?_
              exact x_iret C hret hw hf dX4_letterOf_71
            · replace hf := hf.2 c8
              refine lv_iload_n hx hb dX4_letterOf_51 rfl (lv_at hl 0 rfl) ?_
              refine lv_aload_n hx hb dX4_letterOf_52 rfl (lv_at hl 1 rfl) ?_
              have hm_9 : (25, a0) ∈ L := hw.2.2.2.1 4 a0 hm0 0 (by decide) (by decide) rfl
              refine x_get (v := .ref (lay 25 a0)) (j := 0) C hw hm0 rfl (by decide) (by decide) rfl q241 dX4_letterOf_53 ?_
              refine x_alen (v := 200) C hw hm_9 (by decide) (by decide) (by decide) dX4_letterOf_56 ?_
              refine lv_icmp_ge (tgt := 69) hx hb dX4_letterOf_57 (by decide) (fun c10 => ?_) (fun c10 => ?_)
              · replace hf := hf.1 c10
                refine lv_bipush (v := 32) hx hb dX4_letterOf_69 (by decide) ?_
                exact x_iret C hret hw hf dX4_letterOf_71
              · replace hf := hf.2 c10
                refine lv_aload_n hx hb dX4_letterOf_60 rfl (lv_at hl 1 rfl) ?_
                have hm_11 : (25, a0) ∈ L := hw.2.2.2.1 4 a0 hm0 0 (by decide) (by decide) rfl
                refine x_get (v := .ref (lay 25 a0)) (j := 0) C hw hm0 rfl (by decide) (by decide) rfl q241 dX4_letterOf_61 ?_
                refine lv_iload_n hx hb dX4_letterOf_64 rfl (lv_at hl 0 rfl) ?_
                refine x_bald C hw hm_11 (by decide) rfl hf.1 dX4_letterOf_65 ?_
                replace hf := hf.2
                refine lv_goto (tgt := 71) hx hb dX4_letterOf_66 (by decide) ?_
                exact x_iret C hret hw hf dX4_letterOf_71
          · replace hf := hf.2 c6
            refine lv_bipush (v := 32) hx hb dX4_letterOf_35 (by decide) ?_
            exact x_iret C hret hw hf dX4_letterOf_37
      · replace hf := hf.2 c3
        refine lv_bipush (v := 32) hx hb dX4_letterOf_18 (by decide) ?_
        exact x_iret C hret hw hf dX4_letterOf_20
-- X0_learnWord
abbrev rmX0_learnWord : Room := { frames := 1, cells := 0, slots := 0, locals := 23 }
def fX0_learnWord_l11 (N : Nat) (a0 : Nat) (a1 : Nat) (a2 : Int32) (Q : St → Prop) (Kx39 : St → Prop) : Nat → St → Int32 → Prop
  | 0, _, _ => False
  | n + 1, σ, v3 => (((12 : Int32) ≤ v3 → Kx39 σ) ∧ (¬ (12 : Int32) ≤ v3 → fX4_letterOf N σ a1 a2 v3 (fun (r8 : Int32) (σ7 : St) => (vp_in v3 12 ∧ ∀ σ9 : St, σ9 = setA σ7 28 a0 (v3).toNatClampNeg (vp_nar .byte ((r8).toInt8.toInt32)) → fX0_learnWord_l11 N a0 a1 a2 Q Kx39 n σ9 (v3 + (1 : Int32))))))
set_option maxHeartbeats 4000000 in
set_option maxRecDepth 100000 in
theorem eX0_learnWord_l11 {p : Program} {l : Launch} {e : Env} {s : State} {m : MethodId} {args : Array Value} {below : List Frame} {meth : Method} {c : Code} {E : EC} {lay : Nat → Nat → Nat} {L : List (Nat × Nat)} {A : Nat → Prop} (C : Cx p s m args c meth yX0_learnWord.cls cX0_learnWord 4 E A) (hret : meth.sig.returnType = none) {N : Nat} {a0 : Nat} {a1 : Nat} {a2 : Int32} {Q : St → Prop} {Kx39 : St → Prop} (hm0 : (0, a0) ∈ L) (hm1 : (4, a1) ∈ L) (hK39 : ∀ (σ : St) (H : Heap) (locs : List Loc) (ls : Array Slot), Kx39 σ → Wo E lay L A s σ H locs → lv_has ls 4 [] → W p l e rmX0_learnWord s m args below meth c H locs 0 0 (MQ below (va_Qv Q (Bd E lay L A) A) args s 0 0 A) (F0 m 39 ls [])) : ∀ (n : Nat) (σ : St) (v3 : Int32) (H : Heap) (locs : List Loc) (ls : Array Slot), fX0_learnWord_l11 N a0 a1 a2 Q Kx39 n σ v3 → Wo E lay L A s σ H locs → lv_has ls 4 [(0, .ref (lay 0 a0)), (1, .ref (lay 4 a1)), (2, .int a2), (3, .int v3)] → W p l e rmX0_learnWord s m args below meth c H locs 0 0 (MQ below (va_Qv Q (Bd E lay L A) A) args s 0 0 A) (F0 m 11 ls []) := by
  have hx := C.1
  have hb := C.2.1
  intro n
  induction n with
  | zero => intro σ v3 H locs ls hf; exact hf.elim
  | succ n ih =>
    intro σ v3 H locs ls hf hw hl
    rw [fX0_learnWord_l11] at hf
    refine lv_iload_n hx hb dX0_learnWord_11 rfl (lv_at hl 3 rfl) ?_
    refine lv_aload_n hx hb dX0_learnWord_12 rfl (lv_at hl 0 rfl) ?_
    have hm_4 : (28, a0) ∈ L := hw.2.2.2.1 0 a0 hm0 2 (by decide) (by decide) rfl
    refine x_get (v := .ref (lay 28 a0)) (j := 2) C hw hm0 rfl (by decide) (by decide) rfl q555 dX0_learnWord_13 ?_
    refine x_alen (v := 12) C hw hm_4 (by decide) (by decide) (by decide) dX0_learnWord_16 ?_
    refine lv_icmp_ge (tgt := 39) hx hb dX0_learnWord_17 (by decide) (fun c5 => ?_) (fun c5 => ?_)
    · replace hf := hf.1 c5
      exact hK39 σ _ _ _ hf hw (lv_sub hl [] rfl)
    · replace hf := hf.2 c5
      refine lv_aload_n hx hb dX0_learnWord_20 rfl (lv_at hl 0 rfl) ?_
      have hm_6 : (28, a0) ∈ L := hw.2.2.2.1 0 a0 hm0 2 (by decide) (by decide) rfl
      refine x_get (v := .ref (lay 28 a0)) (j := 2) C hw hm0 rfl (by decide) (by decide) rfl q555 dX0_learnWord_21 ?_
      refine lv_iload_n hx hb dX0_learnWord_24 rfl (lv_at hl 3 rfl) ?_
      refine lv_aload_n hx hb dX0_learnWord_25 rfl (lv_at hl 1 rfl) ?_
      refine lv_iload_n hx hb dX0_learnWord_26 rfl (lv_at hl 2 rfl) ?_
      refine lv_iload_n hx hb dX0_learnWord_27 rfl (lv_at hl 3 rfl) ?_
      refine x_runi hw (x_V (n := 2) (rest := [.int v3, .ref (lay 28 a0)]) C hw hm1 (by decide) (eX4_letterOf hf hm1) q497 q498 q499 q51 q500 rfl rfl (by decide +kernel) ⟨Nat.le_of_ble_eq_true rfl, Nat.le_of_ble_eq_true rfl⟩ rfl hl.1 rfl (Nat.le_of_ble_eq_true rfl) dX0_learnWord_28) (fun r8 σ7 H locs hf hw => ?_)
      try dsimp only at hf
      refine lv_i2b hx hb dX0_learnWord_31 rfl ?_
      refine x_bast C hw hm_6 (by decide) rfl hf.1 dX0_learnWord_32 (fun σ9 H locs eσ9 hw => ?_)
      replace hf := hf.2 σ9 eσ9
      refine lv_iinc (v := (v3 + (1 : Int32))) (lv' := [(3, .int (v3 + (1 : Int32))), (0, .ref (lay 0 a0)), (1, .ref (lay 4 a1)), (2, .int a2)]) hx hb dX0_learnWord_33 hl (k := 3) rfl (by rfl) (by decide) rfl (fun ls hl => ?_)
      refine lv_goto (tgt := 11) hx hb dX0_learnWord_36 (by decide) ?_
      exact ih σ9 (v3 + (1 : Int32)) _ _ _ hf hw (lv_sub hl [1, 2, 3, 0] rfl)
def fX0_learnWord (N : Nat) (σ : St) (a0 : Nat) (a1 : Nat) (a2 : Int32) (Q : St → Prop) : Prop := fX4_lengthOf N σ a1 a2 (fun (r2 : Int32) (σ1 : St) => ∀ σ3 : St, σ3 = setF σ1 0 a0 3 r2 → fX0_learnWord_l11 N a0 a1 a2 Q (fun (σ10 : St) => Q σ10) N σ3 (0 : Int32))
set_option maxHeartbeats 4000000 in
set_option maxRecDepth 100000 in
theorem eX0_learnWord {l : Launch} {E : EC} {lay : Nat → Nat → Nat} {L : List (Nat × Nat)} {A : Nat → Prop} {N : Nat} {σ : St} {a0 : Nat} {a1 : Nat} {a2 : Int32} {Q : St → Prop} (hf : fX0_learnWord N σ a0 a1 a2 Q) (hm0 : (0, a0) ∈ L) (hm1 : (4, a1) ∈ L) : Met l yX0_learnWord (.code yX0_learnWord cX0_learnWord 4 (none) :: big) rmX0_learnWord (va_Pc [.ref (lay 0 a0), .ref (lay 4 a1), .int a2] (Bp E lay L A σ)) (va_Qv Q (Bd E lay L A) A) 0 0 A := by
  refine x_met (by decide +kernel) (Nat.le_of_ble_eq_true rfl) ?_
  intro p e s m args below meth c ls C hret hw hl
  have hx := C.1
  have hb := C.2.1
  have hl : lv_has ls 4 [(0, .ref (lay 0 a0)), (1, .ref (lay 4 a1)), (2, .int a2)] := hl
  unfold fX0_learnWord at hf
  refine lv_aload_n hx hb dX0_learnWord_0 rfl (lv_at hl 0 rfl) ?_
  refine lv_aload_n hx hb dX0_learnWord_1 rfl (lv_at hl 1 rfl) ?_
  refine lv_iload_n hx hb dX0_learnWord_2 rfl (lv_at hl 2 rfl) ?_
  refine x_runi hw (x_V (n := 1) (rest := [.ref (lay 0 a0)]) C hw hm1 (by decide) (eX4_lengthOf hf hm1) q492 q493 q494 q51 q495 rfl rfl (by decide +kernel) ⟨Nat.le_of_ble_eq_true rfl, Nat.le_of_ble_eq_true rfl⟩ rfl hl.1 rfl (Nat.le_of_ble_eq_true rfl) dX0_learnWord_3) (fun r2 σ1 H locs hf hw => ?_)
  try dsimp only at hf
  refine x_putI (j := 3) (ty := .int) C hw hm0 rfl (by decide) (by decide) rfl rfl (by decide +kernel) rfl rfl q556 dX0_learnWord_6 (fun σ3 H locs eσ3 hw => ?_)
  replace hf := hf σ3 eσ3
  refine lv_iconst (v := 0) hx hb dX0_learnWord_9 (by decide) ?_
  refine lv_istore_n (lv' := [(3, .int (0 : Int32)), (0, .ref (lay 0 a0)), (1, .ref (lay 4 a1)), (2, .int a2)]) hx hb dX0_learnWord_10 rfl hl (by decide) rfl (fun ls hl => ?_)
  refine eX0_learnWord_l11 C hret hm0 hm1 ?_ N σ3 (0 : Int32) _ _ _ hf hw (lv_sub hl [1, 2, 3, 0] rfl)
  · intro σ10 H locs ls hf hw hl
    exact x_vret C hret hw hf dX0_learnWord_39
-- X4_countSign
abbrev rmX4_countSign : Room := { frames := 0, cells := 0, slots := 0, locals := 0 }
def fX4_countSign_b34_4 (N : Nat) (a0 : Nat) (a1 : Int32) (Q : Int32 → St → Prop) (Kh : St → Int32 → Int32 → Prop) (Kx40 : St → Int32 → Prop) (σ : St) (v2 : Int32) (v3 : Int32) : Prop := Kh σ v2 (v3 + (1 : Int32))
def fX4_countSign_l4 (N : Nat) (a0 : Nat) (a1 : Int32) (Q : Int32 → St → Prop) (Kx40 : St → Int32 → Prop) : Nat → St → Int32 → Int32 → Prop
  | 0, _, _, _ => False
  | n + 1, σ, v2, v3 => (((sF σ 4 a0 3) ≤ v3 → Kx40 σ v2) ∧ (¬ (sF σ 4 a0 3) ≤ v3 → (((200 : Int32) ≤ v3 → Kx40 σ v2) ∧ (¬ (200 : Int32) ≤ v3 → (vp_in v3 200 ∧ ((¬ (sA σ 25 a0 (v3).toNatClampNeg) = a1 → fX4_countSign_b34_4 N a0 a1 Q (fun (σ : St) (w2 : Int32) (w3 : Int32) => fX4_countSign_l4 N a0 a1 Q Kx40 n σ w2 w3) Kx40 σ v2 v3) ∧ ((sA σ 25 a0 (v3).toNatClampNeg) = a1 → fX4_countSign_b34_4 N a0 a1 Q (fun (σ : St) (w2 : Int32) (w3 : Int32) => fX4_countSign_l4 N a0 a1 Q Kx40 n σ w2 w3) Kx40 σ (v2 + (1 : Int32)) v3)))))))
set_option maxHeartbeats 4000000 in
set_option maxRecDepth 100000 in
theorem eX4_countSign_b34_4 {p : Program} {l : Launch} {e : Env} {s : State} {m : MethodId} {args : Array Value} {below : List Frame} {meth : Method} {c : Code} {E : EC} {lay : Nat → Nat → Nat} {L : List (Nat × Nat)} {A : Nat → Prop} (C : Cx p s m args c meth yX4_countSign.cls cX4_countSign 4 E A) (hret : meth.sig.returnType = some .int) {N : Nat} {a0 : Nat} {a1 : Int32} {Q : Int32 → St → Prop} {Kh : St → Int32 → Int32 → Prop} {Kx40 : St → Int32 → Prop} (hm0 : (4, a0) ∈ L) (hKh : ∀ (σ : St) (w2 : Int32) (w3 : Int32) (H : Heap) (locs : List Loc) (ls : Array Slot), Kh σ w2 w3 → Wo E lay L A s σ H locs → lv_has ls 4 [(0, .ref (lay 4 a0)), (1, .int a1), (2, .int w2), (3, .int w3)] → W p l e rmX4_countSign s m args below meth c H locs 0 0 (MQ below (va_Qi Q (Bd E lay L A) A) args s 0 0 A) (F0 m 4 ls [])) (hK40 : ∀ (σ : St) (w2 : Int32) (H : Heap) (locs : List Loc) (ls : Array Slot), Kx40 σ w2 → Wo E lay L A s σ H locs → lv_has ls 4 [(2, .int w2)] → W p l e rmX4_countSign s m args below meth c H locs 0 0 (MQ below (va_Qi Q (Bd E lay L A) A) args s 0 0 A) (F0 m 40 ls [])) (σ : St) (v2 : Int32) (v3 : Int32) (H : Heap) (locs : List Loc) (ls : Array Slot) (hf : fX4_countSign_b34_4 N a0 a1 Q Kh Kx40 σ v2 v3) (hw : Wo E lay L A s σ H locs) (hl : lv_has ls 4 [(0, .ref (lay 4 a0)), (1, .int a1), (2, .int v2), (3, .int v3)]) : W p l e rmX4_countSign s m args below meth c H locs 0 0 (MQ below (va_Qi Q (Bd E lay L A) A) args s 0 0 A) (F0 m 34 ls []) := by
  have hx := C.1
  have hb := C.2.1
  unfold fX4_countSign_b34_4 at hf
  refine lv_iinc (v := (v3 + (1 : Int32))) (lv' := [(3, .int (v3 + (1 : Int32))), (0, .ref (lay 4 a0)), (1, .int a1), (2, .int v2)]) hx hb dX4_countSign_34 hl (k := 3) rfl (by rfl) (by decide) rfl (fun ls hl => ?_)
  refine lv_goto (tgt := 4) hx hb dX4_countSign_37 (by decide) ?_
  exact hKh σ v2 (v3 + (1 : Int32)) _ _ _ hf hw (lv_sub hl [1, 2, 3, 0] rfl)
set_option maxHeartbeats 4000000 in
set_option maxRecDepth 100000 in
theorem eX4_countSign_l4 {p : Program} {l : Launch} {e : Env} {s : State} {m : MethodId} {args : Array Value} {below : List Frame} {meth : Method} {c : Code} {E : EC} {lay : Nat → Nat → Nat} {L : List (Nat × Nat)} {A : Nat → Prop} (C : Cx p s m args c meth yX4_countSign.cls cX4_countSign 4 E A) (hret : meth.sig.returnType = some .int) {N : Nat} {a0 : Nat} {a1 : Int32} {Q : Int32 → St → Prop} {Kx40 : St → Int32 → Prop} (hm0 : (4, a0) ∈ L) (hK40 : ∀ (σ : St) (w2 : Int32) (H : Heap) (locs : List Loc) (ls : Array Slot), Kx40 σ w2 → Wo E lay L A s σ H locs → lv_has ls 4 [(2, .int w2)] → W p l e rmX4_countSign s m args below meth c H locs 0 0 (MQ below (va_Qi Q (Bd E lay L A) A) args s 0 0 A) (F0 m 40 ls [])) : ∀ (n : Nat) (σ : St) (v2 : Int32) (v3 : Int32) (H : Heap) (locs : List Loc) (ls : Array Slot), fX4_countSign_l4 N a0 a1 Q Kx40 n σ v2 v3 → Wo E lay L A s σ H locs → lv_has ls 4 [(0, .ref (lay 4 a0)), (1, .int a1), (2, .int v2), (3, .int v3)] → W p l e rmX4_countSign s m args below meth c H locs 0 0 (MQ below (va_Qi Q (Bd E lay L A) A) args s 0 0 A) (F0 m 4 ls []) := by
  have hx := C.1
  have hb := C.2.1
  intro n
  induction n with
  | zero => intro σ v2 v3 H locs ls hf; exact hf.elim
  | succ n ih =>
    intro σ v2 v3 H locs ls hf hw hl
    rw [fX4_countSign_l4] at hf
    refine lv_iload_n hx hb dX4_countSign_4 rfl (lv_at hl 3 rfl) ?_
    refine lv_aload_n hx hb dX4_countSign_5 rfl (lv_at hl 0 rfl) ?_
    refine x_get (v := .int (sF σ 4 a0 3)) (j := 3) C hw hm0 rfl (by decide) (by decide) rfl q244 dX4_countSign_6 ?_
    refine lv_icmp_ge (tgt := 40) hx hb dX4_countSign_9 (by decide) (fun c1 => ?_) (fun c1 => ?_)
    · replace hf := hf.1 c1
      exact hK40 σ v2 _ _ _ hf hw (lv_sub hl [2] rfl)
    · replace hf := hf.2 c1
      refine lv_iload_n hx hb dX4_countSign_12 rfl (lv_at hl 3 rfl) ?_
      refine lv_aload_n hx hb dX4_countSign_13 rfl (lv_at hl 0 rfl) ?_
      have hm_2 : (25, a0) ∈ L := hw.2.2.2.1 4 a0 hm0 0 (by decide) (by decide) rfl
      refine x_get (v := .ref (lay 25 a0)) (j := 0) C hw hm0 rfl (by decide) (by decide) rfl q241 dX4_countSign_14 ?_
      refine x_alen (v := 200) C hw hm_2 (by decide) (by decide) (by decide) dX4_countSign_17 ?_
      refine lv_icmp_ge (tgt := 40) hx hb dX4_countSign_18 (by decide) (fun c3 => ?_) (fun c3 => ?_)
      · replace hf := hf.1 c3
        exact hK40 σ v2 _ _ _ hf hw (lv_sub hl [2] rfl)
      · replace hf := hf.2 c3
        refine lv_aload_n hx hb dX4_countSign_21 rfl (lv_at hl 0 rfl) ?_
        have hm_4 : (25, a0) ∈ L := hw.2.2.2.1 4 a0 hm0 0 (by decide) (by decide) rfl
        refine x_get (v := .ref (lay 25 a0)) (j := 0) C hw hm0 rfl (by decide) (by decide) rfl q241 dX4_countSign_22 ?_
        refine lv_iload_n hx hb dX4_countSign_25 rfl (lv_at hl 3 rfl) ?_
        refine x_bald C hw hm_4 (by decide) rfl hf.1 dX4_countSign_26 ?_
        replace hf := hf.2
        refine lv_iload_n hx hb dX4_countSign_27 rfl (lv_at hl 1 rfl) ?_
        refine lv_icmp_ne (tgt := 34) hx hb dX4_countSign_28 (by decide) (fun c5 => ?_) (fun c5 => ?_)
        · replace hf := hf.1 c5
          exact eX4_countSign_b34_4 C hret hm0 ih hK40 σ v2 v3 _ _ _ hf hw (lv_sub hl [0, 1, 2, 3] rfl)
        · replace hf := hf.2 c5
          refine lv_iinc (v := (v2 + (1 : Int32))) (lv' := [(2, .int (v2 + (1 : Int32))), (0, .ref (lay 4 a0)), (1, .int a1), (3, .int v3)]) hx hb dX4_countSign_31 hl (k := 2) rfl (by rfl) (by decide) rfl (fun ls hl => ?_)
          exact eX4_countSign_b34_4 C hret hm0 ih hK40 σ (v2 + (1 : Int32)) v3 _ _ _ hf hw (lv_sub hl [1, 2, 0, 3] rfl)
def fX4_countSign (N : Nat) (σ : St) (a0 : Nat) (a1 : Int32) (Q : Int32 → St → Prop) : Prop := fX4_countSign_l4 N a0 a1 Q (fun (σ6 : St) (u40_2 : Int32) => Q u40_2 σ6) N σ (0 : Int32) (0 : Int32)
set_option maxHeartbeats 4000000 in
set_option maxRecDepth 100000 in
theorem eX4_countSign {l : Launch} {E : EC} {lay : Nat → Nat → Nat} {L : List (Nat × Nat)} {A : Nat → Prop} {N : Nat} {σ : St} {a0 : Nat} {a1 : Int32} {Q : Int32 → St → Prop} (hf : fX4_countSign N σ a0 a1 Q) (hm0 : (4, a0) ∈ L) : Met l yX4_countSign (.code yX4_countSign cX4_countSign 4 (some .int) :: big) rmX4_countSign (va_Pc [.ref (lay 4 a0), .int a1] (Bp E lay L A σ)) (va_Qi Q (Bd E lay L A) A) 0 0 A := by
  refine x_met (by decide +kernel) (Nat.le_of_ble_eq_true rfl) ?_
  intro p e s m args below meth c ls C hret hw hl
  have hx := C.1
  have hb := C.2.1
  have hl : lv_has ls 4 [(0, .ref (lay 4 a0)), (1, .int a1)] := hl
  unfold fX4_countSign at hf
  refine lv_iconst (v := 0) hx hb dX4_countSign_0 (by decide) ?_
  refine lv_istore_n (lv' := [(2, .int (0 : Int32)), (0, .ref (lay 4 a0)), (1, .int a1)]) hx hb dX4_countSign_1 rfl hl (by decide) rfl (fun ls hl => ?_)
  refine lv_iconst (v := 0) hx hb dX4_countSign_2 (by decide) ?_
  refine lv_istore_n (lv' := [(3, .int (0 : Int32)), (2, .int (0 : Int32)), (0, .ref (lay 4 a0)), (1, .int a1)]) hx hb dX4_countSign_3 rfl hl (by decide) rfl (fun ls hl => ?_)
  refine eX4_countSign_l4 C hret hm0 ?_ N σ (0 : Int32) (0 : Int32) _ _ _ hf hw (lv_sub hl [2, 3, 1, 0] rfl)
  · intro σ6 u40_2 H locs ls hf hw hl
    refine lv_iload_n hx hb dX4_countSign_40 rfl (lv_at hl 0 rfl) ?_
    exact x_iret C hret hw hf dX4_countSign_41
-- X0_hasLetters
abbrev rmX0_hasLetters : Room := { frames := 1, cells := 0, slots := 0, locals := 23 }
def fX0_hasLetters_l2 (N : Nat) (a0 : Nat) (a1 : Nat) (a2 : Int32) (Q : Int32 → St → Prop) (Kx26 : St → Prop) (Kx34 : St → Prop) : Nat → St → Int32 → Prop
  | 0, _, _ => False
  | n + 1, σ, v3 => (((12 : Int32) ≤ v3 → Kx34 σ) ∧ (¬ (12 : Int32) ≤ v3 → fX4_letterOf N σ a1 a2 v3 (fun (r4 : Int32) (σ3 : St) => (vp_in v3 12 ∧ ((r4 = (sA σ3 28 a0 (v3).toNatClampNeg) → fX0_hasLetters_l2 N a0 a1 a2 Q Kx26 Kx34 n σ3 (v3 + (1 : Int32))) ∧ (¬ r4 = (sA σ3 28 a0 (v3).toNatClampNeg) → Kx26 σ3))))))
set_option maxHeartbeats 4000000 in
set_option maxRecDepth 100000 in
theorem eX0_hasLetters_l2 {p : Program} {l : Launch} {e : Env} {s : State} {m : MethodId} {args : Array Value} {below : List Frame} {meth : Method} {c : Code} {E : EC} {lay : Nat → Nat → Nat} {L : List (Nat × Nat)} {A : Nat → Prop} (C : Cx p s m args c meth yX0_hasLetters.cls cX0_hasLetters 4 E A) (hret : meth.sig.returnType = some .boolean) {N : Nat} {a0 : Nat} {a1 : Nat} {a2 : Int32} {Q : Int32 → St → Prop} {Kx26 : St → Prop} {Kx34 : St → Prop} (hm0 : (0, a0) ∈ L) (hm1 : (4, a1) ∈ L) (hK26 : ∀ (σ : St) (H : Heap) (locs : List Loc) (ls : Array Slot), Kx26 σ → Wo E lay L A s σ H locs → lv_has ls 4 [] → W p l e rmX0_hasLetters s m args below meth c H locs 0 0 (MQ below (va_Qi (fun r u => Q r u ∧ narrow .boolean (.int r) = .int r) (Bd E lay L A) A) args s 0 0 A) (F0 m 26 ls [])) (hK34 : ∀ (σ : St) (H : Heap) (locs : List Loc) (ls : Array Slot), Kx34 σ → Wo E lay L A s σ H locs → lv_has ls 4 [] → W p l e rmX0_hasLetters s m args below meth c H locs 0 0 (MQ below (va_Qi (fun r u => Q r u ∧ narrow .boolean (.int r) = .int r) (Bd E lay L A) A) args s 0 0 A) (F0 m 34 ls [])) : ∀ (n : Nat) (σ : St) (v3 : Int32) (H : Heap) (locs : List Loc) (ls : Array Slot), fX0_hasLetters_l2 N a0 a1 a2 Q Kx26 Kx34 n σ v3 → Wo E lay L A s σ H locs → lv_has ls 4 [(0, .ref (lay 0 a0)), (1, .ref (lay 4 a1)), (2, .int a2), (3, .int v3)] → W p l e rmX0_hasLetters s m args below meth c H locs 0 0 (MQ below (va_Qi (fun r u => Q r u ∧ narrow .boolean (.int r) = .int r) (Bd E lay L A) A) args s 0 0 A) (F0 m 2 ls []) := by
  have hx := C.1
  have hb := C.2.1
  intro n
  induction n with
  | zero => intro σ v3 H locs ls hf; exact hf.elim
  | succ n ih =>
    intro σ v3 H locs ls hf hw hl
    rw [fX0_hasLetters_l2] at hf
    refine lv_iload_n hx hb dX0_hasLetters_2 rfl (lv_at hl 3 rfl) ?_
    refine lv_aload_n hx hb dX0_hasLetters_3 rfl (lv_at hl 0 rfl) ?_
    have hm_1 : (28, a0) ∈ L := hw.2.2.2.1 0 a0 hm0 2 (by decide) (by decide) rfl
    refine x_get (v := .ref (lay 28 a0)) (j := 2) C hw hm0 rfl (by decide) (by decide) rfl q555 dX0_hasLetters_4 ?_
    refine x_alen (v := 12) C hw hm_1 (by decide) (by decide) (by decide) dX0_hasLetters_7 ?_
    refine lv_icmp_ge (tgt := 34) hx hb dX0_hasLetters_8 (by decide) (fun c2 => ?_) (fun c2 => ?_)
    · replace hf := hf.1 c2
      exact hK34 σ _ _ _ hf hw (lv_sub hl [] rfl)
    · replace hf := hf.2 c2
      refine lv_aload_n hx hb dX0_hasLetters_11 rfl (lv_at hl 1 rfl) ?_
      refine lv_iload_n hx hb dX0_hasLetters_12 rfl (lv_at hl 2 rfl) ?_
      refine lv_iload_n hx hb dX0_hasLetters_13 rfl (lv_at hl 3 rfl) ?_
      refine x_runi hw (x_V (n := 2) (rest := []) C hw hm1 (by decide) (eX4_letterOf hf hm1) q497 q498 q499 q51 q500 rfl rfl (by decide +kernel) ⟨Nat.le_of_ble_eq_true rfl, Nat.le_of_ble_eq_true rfl⟩ rfl hl.1 rfl (Nat.le_of_ble_eq_true rfl) dX0_hasLetters_14) (fun r4 σ3 H locs hf hw => ?_)
      try dsimp only at hf
      refine lv_aload_n hx hb dX0_hasLetters_17 rfl (lv_at hl 0 rfl) ?_
      have hm_5 : (28, a0) ∈ L := hw.2.2.2.1 0 a0 hm0 2 (by decide) (by decide) rfl
      refine x_get (v := .ref (lay 28 a0)) (j := 2) C hw hm0 rfl (by decide) (by decide) rfl q555 dX0_hasLetters_18 ?_
      refine lv_iload_n hx hb dX0_hasLetters_21 rfl (lv_at hl 3 rfl) ?_
      refine x_bald C hw hm_5 (by decide) rfl hf.1 dX0_hasLetters_22 ?_
      replace hf := hf.2
      refine lv_icmp_eq (tgt := 28) hx hb dX0_hasLetters_23 (by decide) (fun c6 => ?_) (fun c6 => ?_)
      · replace hf := hf.1 c6
        refine lv_iinc (v := (v3 + (1 : Int32))) (lv' := [(3, .int (v3 + (1 : Int32))), (0, .ref (lay 0 a0)), (1, .ref (lay 4 a1)), (2, .int a2)]) hx hb dX0_hasLetters_28 hl (k := 3) rfl (by rfl) (by decide) rfl (fun ls hl => ?_)
        refine lv_goto (tgt := 2) hx hb dX0_hasLetters_31 (by decide) ?_
        exact ih σ3 (v3 + (1 : Int32)) _ _ _ hf hw (lv_sub hl [1, 2, 3, 0] rfl)
      · replace hf := hf.2 c6
        exact hK26 σ3 _ _ _ hf hw (lv_sub hl [] rfl)
def fX0_hasLetters (N : Nat) (σ : St) (a0 : Nat) (a1 : Nat) (a2 : Int32) (Q : Int32 → St → Prop) : Prop := fX0_hasLetters_l2 N a0 a1 a2 Q (fun (σ7 : St) => Q (0 : Int32) σ7) (fun (σ8 : St) => Q (1 : Int32) σ8) N σ (0 : Int32)
set_option maxHeartbeats 4000000 in
set_option maxRecDepth 100000 in
theorem eX0_hasLetters {l : Launch} {E : EC} {lay : Nat → Nat → Nat} {L : List (Nat × Nat)} {A : Nat → Prop} {N : Nat} {σ : St} {a0 : Nat} {a1 : Nat} {a2 : Int32} {Q : Int32 → St → Prop} (hf : fX0_hasLetters N σ a0 a1 a2 Q) (hm0 : (0, a0) ∈ L) (hm1 : (4, a1) ∈ L) : Met l yX0_hasLetters (.code yX0_hasLetters cX0_hasLetters 4 (some .boolean) :: big) rmX0_hasLetters (va_Pc [.ref (lay 0 a0), .ref (lay 4 a1), .int a2] (Bp E lay L A σ)) (va_Qi (fun r u => Q r u ∧ narrow .boolean (.int r) = .int r) (Bd E lay L A) A) 0 0 A := by
  refine x_met (by decide +kernel) (Nat.le_of_ble_eq_true rfl) ?_
  intro p e s m args below meth c ls C hret hw hl
  have hx := C.1
  have hb := C.2.1
  have hl : lv_has ls 4 [(0, .ref (lay 0 a0)), (1, .ref (lay 4 a1)), (2, .int a2)] := hl
  unfold fX0_hasLetters at hf
  refine lv_iconst (v := 0) hx hb dX0_hasLetters_0 (by decide) ?_
  refine lv_istore_n (lv' := [(3, .int (0 : Int32)), (0, .ref (lay 0 a0)), (1, .ref (lay 4 a1)), (2, .int a2)]) hx hb dX0_hasLetters_1 rfl hl (by decide) rfl (fun ls hl => ?_)
  refine eX0_hasLetters_l2 C hret hm0 hm1 ?_ ?_ N σ (0 : Int32) _ _ _ hf hw (lv_sub hl [1, 2, 3, 0] rfl)
  · intro σ7 H locs ls hf hw hl
    refine lv_iconst (v := 0) hx hb dX0_hasLetters_26 (by decide) ?_
    exact x_zret C hret (by decide) hw ⟨hf, by decide⟩ dX0_hasLetters_27
  · intro σ8 H locs ls hf hw hl
    refine lv_iconst (v := 1) hx hb dX0_hasLetters_34 (by decide) ?_
    exact x_zret C hret (by decide) hw ⟨hf, by decide⟩ dX0_hasLetters_35
-- X0_fits
abbrev rmX0_fits : Room := { frames := 2, cells := 0, slots := 0, locals := 46 }
def fX0_fits (N : Nat) (σ : St) (a0 : Nat) (a1 : Nat) (a2 : Int32) (Q : Int32 → St → Prop) : Prop := fX4_lengthOf N σ a1 a2 (fun (r2 : Int32) (σ1 : St) => (((sF σ1 0 a0 0) = (1 : Int32) → ((¬ (if (12 : Int32) < r2 then (12 : Int32) else r2) = (sF σ1 0 a0 1) → Q (0 : Int32) σ1) ∧ ((if (12 : Int32) < r2 then (12 : Int32) else r2) = (sF σ1 0 a0 1) → Q (1 : Int32) σ1))) ∧ ((sF σ1 0 a0 0) = (2 : Int32) → fX4_letterOf N σ1 a1 a2 (r2 - (1 : Int32)) (fun (r5 : Int32) (σ4 : St) => ((¬ r5 = (sF σ4 0 a0 1) → Q (0 : Int32) σ4) ∧ (r5 = (sF σ4 0 a0 1) → Q (1 : Int32) σ4)))) ∧ ((sF σ1 0 a0 0) = (3 : Int32) → ((¬ r2 = (sF σ1 0 a0 3) → Q (0 : Int32) σ1) ∧ (r2 = (sF σ1 0 a0 3) → fX0_hasLetters N σ1 a0 a1 a2 (fun (r9 : Int32) (σ8 : St) => ((r9 = 0 → Q (0 : Int32) σ8) ∧ (¬ r9 = 0 → Q (1 : Int32) σ8)))))) ∧ (¬ (sF σ1 0 a0 0) = (1 : Int32) → ¬ (sF σ1 0 a0 0) = (2 : Int32) → ¬ (sF σ1 0 a0 0) = (3 : Int32) → Q (0 : Int32) σ1)))
set_option maxHeartbeats 4000000 in
set_option maxRecDepth 100000 in
theorem eX0_fits {l : Launch} {E : EC} {lay : Nat → Nat → Nat} {L : List (Nat × Nat)} {A : Nat → Prop} {N : Nat} {σ : St} {a0 : Nat} {a1 : Nat} {a2 : Int32} {Q : Int32 → St → Prop} (hf : fX0_fits N σ a0 a1 a2 Q) (hm0 : (0, a0) ∈ L) (hm1 : (4, a1) ∈ L) : Met l yX0_fits (.code yX0_fits cX0_fits 4 (some .boolean) :: big) rmX0_fits (va_Pc [.ref (lay 0 a0), .ref (lay 4 a1), .int a2] (Bp E lay L A σ)) (va_Qi (fun r u => Q r u ∧ narrow .boolean (.int r) = .int r) (Bd E lay L A) A) 0 0 A := by
  refine x_met (by decide +kernel) (Nat.le_of_ble_eq_true rfl) ?_
  intro p e s m args below meth c ls C hret hw hl
  have hx := C.1
  have hb := C.2.1
  have hl : lv_has ls 4 [(0, .ref (lay 0 a0)), (1, .ref (lay 4 a1)), (2, .int a2)] := hl
  unfold fX0_fits at hf
  refine lv_aload_n hx hb dX0_fits_0 rfl (lv_at hl 1 rfl) ?_
  refine lv_iload_n hx hb dX0_fits_1 rfl (lv_at hl 2 rfl) ?_
  refine x_runi hw (x_V (n := 1) (rest := []) C hw hm1 (by decide) (eX4_lengthOf hf hm1) q492 q493 q494 q51 q495 rfl rfl (by decide +kernel) ⟨Nat.le_of_ble_eq_true rfl, Nat.le_of_ble_eq_true rfl⟩ rfl hl.1 rfl (Nat.le_of_ble_eq_true rfl) dX0_fits_2) (fun r2 σ1 H locs hf hw => ?_)
  try dsimp only at hf
  refine lv_istore_n (lv' := [(3, .int r2), (0, .ref (lay 0 a0)), (1, .ref (lay 4 a1)), (2, .int a2)]) hx hb dX0_fits_5 rfl hl (by decide) rfl (fun ls hl => ?_)
  refine lv_aload_n hx hb dX0_fits_6 rfl (lv_at hl 1 rfl) ?_
  refine x_get (v := .int (sF σ1 0 a0 0)) (j := 0) C hw hm0 rfl (by decide) (by decide) rfl q552 dX0_fits_7 ?_
  by_cases c10_0 : (sF σ1 0 a0 0) = (1 : Int32)
  · replace hf := hf.1 c10_0
    rw [c10_0]
    refine lv_tableIn (off := 26) (tgt := 36) hx hb dX0_fits_10 (by decide) (by decide) (by decide) (by decide) ?_
    refine lv_iload_n hx hb dX0_fits_36 rfl (lv_at hl 0 rfl) ?_
    refine lv_bipush (v := 12) hx hb dX0_fits_37 (by decide) ?_
    refine va_mmin hx hb (C.2.2.1.trans hl.1.symm) C.2.2.2.1 (C.2.2.2.2.1 _ q496) (C.2.2.2.2.1 _ q439) (C.2.2.2.2.1 _ q56) (C.2.2.2.2.1 _ q440) (Nat.le_of_ble_eq_true rfl) (Nat.le_of_ble_eq_true rfl) (Nat.zero_le _) (Nat.zero_le _) dX0_fits_39 ?_
    refine lv_aload_n hx hb dX0_fits_42 rfl (lv_at hl 1 rfl) ?_
    refine x_get (v := .int (sF σ1 0 a0 1)) (j := 1) C hw hm0 rfl (by decide) (by decide) rfl q554 dX0_fits_43 ?_
    refine lv_icmp_ne (tgt := 53) hx hb dX0_fits_46 (by decide) (fun c3 => ?_) (fun c3 => ?_)
    · replace hf := hf.1 c3
      refine lv_iconst (v := 0) hx hb dX0_fits_53 (by decide) ?_
      exact x_zret C hret (by decide) hw ⟨hf, by decide⟩ dX0_fits_54
    · replace hf := hf.2 c3
      refine lv_iconst (v := 1) hx hb dX0_fits_49 (by decide) ?_
      refine lv_goto (tgt := 54) hx hb dX0_fits_50 (by decide) ?_
      exact x_zret C hret (by decide) hw ⟨hf, by decide⟩ dX0_fits_54
  by_cases c10_1 : (sF σ1 0 a0 0) = (2 : Int32)
  · replace hf := hf.2.1 c10_1
    rw [c10_1]
    refine lv_tableIn (off := 45) (tgt := 55) hx hb dX0_fits_10 (by decide) (by decide) (by decide) (by decide) ?_
    refine lv_aload_n hx hb dX0_fits_55 rfl (lv_at hl 2 rfl) ?_
    refine lv_iload_n hx hb dX0_fits_56 rfl (lv_at hl 3 rfl) ?_
    refine lv_iload_n hx hb dX0_fits_57 rfl (lv_at hl 0 rfl) ?_
    refine lv_iconst (v := 1) hx hb dX0_fits_58 (by decide) ?_
    refine lv_isub hx hb dX0_fits_59 ?_
    refine x_runi hw (x_V (n := 2) (rest := []) C hw hm1 (by decide) (eX4_letterOf hf hm1) q497 q498 q499 q51 q500 rfl rfl (by decide +kernel) ⟨Nat.le_of_ble_eq_true rfl, Nat.le_of_ble_eq_true rfl⟩ rfl hl.1 rfl (Nat.le_of_ble_eq_true rfl) dX0_fits_60) (fun r5 σ4 H locs hf hw => ?_)
    try dsimp only at hf
    refine lv_aload_n hx hb dX0_fits_63 rfl (lv_at hl 1 rfl) ?_
    refine x_get (v := .int (sF σ4 0 a0 1)) (j := 1) C hw hm0 rfl (by decide) (by decide) rfl q554 dX0_fits_64 ?_
    refine lv_icmp_ne (tgt := 74) hx hb dX0_fits_67 (by decide) (fun c6 => ?_) (fun c6 => ?_)
    · replace hf := hf.1 c6
      refine lv_iconst (v := 0) hx hb dX0_fits_74 (by decide) ?_
      exact x_zret C hret (by decide) hw ⟨hf, by decide⟩ dX0_fits_75
    · replace hf := hf.2 c6
      refine lv_iconst (v := 1) hx hb dX0_fits_70 (by decide) ?_
      refine lv_goto (tgt := 75) hx hb dX0_fits_71 (by decide) ?_
      exact x_zret C hret (by decide) hw ⟨hf, by decide⟩ dX0_fits_75
  by_cases c10_2 : (sF σ1 0 a0 0) = (3 : Int32)
  · replace hf := hf.2.2.1 c10_2
    rw [c10_2]
    refine lv_tableIn (off := 66) (tgt := 76) hx hb dX0_fits_10 (by decide) (by decide) (by decide) (by decide) ?_
    refine lv_iload_n hx hb dX0_fits_76 rfl (lv_at hl 0 rfl) ?_
    refine lv_aload_n hx hb dX0_fits_77 rfl (lv_at hl 1 rfl) ?_
    refine x_get (v := .int (sF σ1 0 a0 3)) (j := 3) C hw hm0 rfl (by decide) (by decide) rfl q556 dX0_fits_78 ?_
    refine lv_icmp_ne (tgt := 97) hx hb dX0_fits_81 (by decide) (fun c7 => ?_) (fun c7 => ?_)
    · replace hf := hf.1 c7
      refine lv_iconst (v := 0) hx hb dX0_fits_97 (by decide) ?_
      exact x_zret C hret (by decide) hw ⟨hf, by decide⟩ dX0_fits_98
    · replace hf := hf.2 c7
      refine lv_aload_n hx hb dX0_fits_84 rfl (lv_at hl 1 rfl) ?_
      refine lv_aload_n hx hb dX0_fits_85 rfl (lv_at hl 2 rfl) ?_
      refine lv_iload_n hx hb dX0_fits_86 rfl (lv_at hl 3 rfl) ?_
      refine x_runi hw (x_V (n := 2) (rest := []) C hw hm0 (by decide) (eX0_hasLetters hf hm0 hm1) q501 q503 q8 q57 q504 rfl rfl (by decide +kernel) ⟨Nat.le_of_ble_eq_true rfl, Nat.le_of_ble_eq_true rfl⟩ rfl hl.1 rfl (Nat.le_of_ble_eq_true rfl) dX0_fits_87) (fun r9 σ8 H locs hf hw => ?_)
      have hzr9 := hf.2
      replace hf := hf.1
      try dsimp only at hf
      refine lv_if_eq (tgt := 97) hx hb dX0_fits_90 (by decide) (fun c10 => ?_) (fun c10 => ?_)
      · replace hf := hf.1 c10
        refine lv_iconst (v := 0) hx hb dX0_fits_97 (by decide) ?_
        exact x_zret C hret (by decide) hw ⟨hf, by decide⟩ dX0_fits_98
      · replace hf := hf.2 c10
        refine lv_iconst (v := 1) hx hb dX0_fits_93 (by decide) ?_
        refine lv_goto (tgt := 98) hx hb dX0_fits_94 (by decide) ?_
        exact x_zret C hret (by decide) hw ⟨hf, by decide⟩ dX0_fits_98
  replace hf := hf.2.2.2 c10_0 c10_1 c10_2
  refine lv_tableOut (tgt := 99) (x := (sF σ1 0 a0 0)) hx hb dX0_fits_10 (by have h := sw_out (x := (sF σ1 0 a0 0)) 1 4 (by decide) (fun k hk0 hk => by rcases (show k = 1 ∨ k = 2 ∨ k = 3 by omega) with rfl | rfl | rfl <;> first | exact c10_0 | exact c10_1 | exact c10_2); omega) (by decide) ?_
  refine lv_iconst (v := 0) hx hb dX0_fits_99 (by decide) ?_
  exact x_zret C hret (by decide) hw ⟨hf, by decide⟩ dX0_fits_100
-- X0_countInWords
abbrev rmX0_countInWords : Room := { frames := 3, cells := 0, slots := 0, locals := 69 }
def fX0_countInWords_b25_6 (N : Nat) (a0 : Nat) (a1 : Nat) (a2 : Int32) (a3 : Int32) (Q : Int32 → St → Prop) (Kh : St → Int32 → Int32 → Prop) (Kx31 : St → Int32 → Prop) (σ : St) (v4 : Int32) (v5 : Int32) : Prop := Kh σ v4 (v5 + (1 : Int32))
def fX0_countInWords_l6 (N : Nat) (a0 : Nat) (a1 : Nat) (a2 : Int32) (a3 : Int32) (Q : Int32 → St → Prop) (Kx31 : St → Int32 → Prop) : Nat → St → Int32 → Int32 → Prop
  | 0, _, _, _ => False
  | n + 1, σ, v4, v5 => ((a3 ≤ v5 → Kx31 σ v4) ∧ (¬ a3 ≤ v5 → fX0_fits N σ a0 a1 v5 (fun (r3 : Int32) (σ2 : St) => ((r3 = 0 → fX0_countInWords_b25_6 N a0 a1 a2 a3 Q (fun (σ : St) (w4 : Int32) (w5 : Int32) => fX0_countInWords_l6 N a0 a1 a2 a3 Q Kx31 n σ w4 w5) Kx31 σ2 v4 v5) ∧ (¬ r3 = 0 → fX0_countInWords_b25_6 N a0 a1 a2 a3 Q (fun (σ : St) (w4 : Int32) (w5 : Int32) => fX0_countInWords_l6 N a0 a1 a2 a3 Q Kx31 n σ w4 w5) Kx31 σ2 (v4 + (1 : Int32)) v5)))))
set_option maxHeartbeats 4000000 in
set_option maxRecDepth 100000 in
theorem eX0_countInWords_b25_6 {p : Program} {l : Launch} {e : Env} {s : State} {m : MethodId} {args : Array Value} {below : List Frame} {meth : Method} {c : Code} {E : EC} {lay : Nat → Nat → Nat} {L : List (Nat × Nat)} {A : Nat → Prop} (C : Cx p s m args c meth yX0_countInWords.cls cX0_countInWords 6 E A) (hret : meth.sig.returnType = some .int) {N : Nat} {a0 : Nat} {a1 : Nat} {a2 : Int32} {a3 : Int32} {Q : Int32 → St → Prop} {Kh : St → Int32 → Int32 → Prop} {Kx31 : St → Int32 → Prop} (hm0 : (0, a0) ∈ L) (hm1 : (4, a1) ∈ L) (hKh : ∀ (σ : St) (w4 : Int32) (w5 : Int32) (H : Heap) (locs : List Loc) (ls : Array Slot), Kh σ w4 w5 → Wo E lay L A s σ H locs → lv_has ls 6 [(0, .ref (lay 0 a0)), (1, .ref (lay 4 a1)), (3, .int a3), (4, .int w4), (5, .int w5)] → W p l e rmX0_countInWords s m args below meth c H locs 0 0 (MQ below (va_Qi Q (Bd E lay L A) A) args s 0 0 A) (F0 m 6 ls [])) (hK31 : ∀ (σ : St) (w4 : Int32) (H : Heap) (locs : List Loc) (ls : Array Slot), Kx31 σ w4 → Wo E lay L A s σ H locs → lv_has ls 6 [(4, .int w4)] → W p l e rmX0_countInWords s m args below meth c H locs 0 0 (MQ below (va_Qi Q (Bd E lay L A) A) args s 0 0 A) (F0 m 31 ls [])) (σ : St) (v4 : Int32) (v5 : Int32) (H : Heap) (locs : List Loc) (ls : Array Slot) (hf : fX0_countInWords_b25_6 N a0 a1 a2 a3 Q Kh Kx31 σ v4 v5) (hw : Wo E lay L A s σ H locs) (hl : lv_has ls 6 [(0, .ref (lay 0 a0)), (1, .ref (lay 4 a1)), (3, .int a3), (4, .int v4), (5, .int v5)]) : W p l e rmX0_countInWords s m args below meth c H locs 0 0 (MQ below (va_Qi Q (Bd E lay L A) A) args s 0 0 A) (F0 m 25 ls []) := by
  have hx := C.1
  have hb := C.2.1
  unfold fX0_countInWords_b25_6 at hf
  refine lv_iinc (v := (v5 + (1 : Int32))) (lv' := [(5, .int (v5 + (1 : Int32))), (0, .ref (lay 0 a0)), (1, .ref (lay 4 a1)), (3, .int a3), (4, .int v4)]) hx hb dX0_countInWords_25 hl (k := 4) rfl (by rfl) (by decide) rfl (fun ls hl => ?_)
  refine lv_goto (tgt := 6) hx hb dX0_countInWords_28 (by decide) ?_
  exact hKh σ v4 (v5 + (1 : Int32)) _ _ _ hf hw (lv_sub hl [1, 2, 3, 4, 0] rfl)
set_option maxHeartbeats 4000000 in
set_option maxRecDepth 100000 in
theorem eX0_countInWords_l6 {p : Program} {l : Launch} {e : Env} {s : State} {m : MethodId} {args : Array Value} {below : List Frame} {meth : Method} {c : Code} {E : EC} {lay : Nat → Nat → Nat} {L : List (Nat × Nat)} {A : Nat → Prop} (C : Cx p s m args c meth yX0_countInWords.cls cX0_countInWords 6 E A) (hret : meth.sig.returnType = some .int) {N : Nat} {a0 : Nat} {a1 : Nat} {a2 : Int32} {a3 : Int32} {Q : Int32 → St → Prop} {Kx31 : St → Int32 → Prop} (hm0 : (0, a0) ∈ L) (hm1 : (4, a1) ∈ L) (hK31 : ∀ (σ : St) (w4 : Int32) (H : Heap) (locs : List Loc) (ls : Array Slot), Kx31 σ w4 → Wo E lay L A s σ H locs → lv_has ls 6 [(4, .int w4)] → W p l e rmX0_countInWords s m args below meth c H locs 0 0 (MQ below (va_Qi Q (Bd E lay L A) A) args s 0 0 A) (F0 m 31 ls [])) : ∀ (n : Nat) (σ : St) (v4 : Int32) (v5 : Int32) (H : Heap) (locs : List Loc) (ls : Array Slot), fX0_countInWords_l6 N a0 a1 a2 a3 Q Kx31 n σ v4 v5 → Wo E lay L A s σ H locs → lv_has ls 6 [(0, .ref (lay 0 a0)), (1, .ref (lay 4 a1)), (3, .int a3), (4, .int v4), (5, .int v5)] → W p l e rmX0_countInWords s m args below meth c H locs 0 0 (MQ below (va_Qi Q (Bd E lay L A) A) args s 0 0 A) (F0 m 6 ls []) := by
  have hx := C.1
  have hb := C.2.1
  intro n
  induction n with
  | zero => intro σ v4 v5 H locs ls hf; exact hf.elim
  | succ n ih =>
    intro σ v4 v5 H locs ls hf hw hl
    rw [fX0_countInWords_l6] at hf
    refine lv_iload hx hb dX0_countInWords_6 (lv_at hl 4 rfl) ?_
    refine lv_iload_n hx hb dX0_countInWords_8 rfl (lv_at hl 2 rfl) ?_
    refine lv_icmp_ge (tgt := 31) hx hb dX0_countInWords_9 (by decide) (fun c1 => ?_) (fun c1 => ?_)
    · replace hf := hf.1 c1
      exact hK31 σ v4 _ _ _ hf hw (lv_sub hl [3] rfl)
    · replace hf := hf.2 c1
      refine lv_aload_n hx hb dX0_countInWords_12 rfl (lv_at hl 0 rfl) ?_
      refine lv_aload_n hx hb dX0_countInWords_13 rfl (lv_at hl 1 rfl) ?_
      refine lv_iload hx hb dX0_countInWords_14 (lv_at hl 4 rfl) ?_
      refine x_runi hw (x_V (n := 2) (rest := []) C hw hm0 (by decide) (eX0_fits hf hm0 hm1) q487 q489 q7 q57 q491 rfl rfl (by decide +kernel) ⟨Nat.le_of_ble_eq_true rfl, Nat.le_of_ble_eq_true rfl⟩ rfl hl.1 rfl (Nat.le_of_ble_eq_true rfl) dX0_countInWords_16) (fun r3 σ2 H locs hf hw => ?_)
      have hzr3 := hf.2
      replace hf := hf.1
      try dsimp only at hf
      refine lv_if_eq (tgt := 25) hx hb dX0_countInWords_19 (by decide) (fun c4 => ?_) (fun c4 => ?_)
      · replace hf := hf.1 c4
        exact eX0_countInWords_b25_6 C hret hm0 hm1 ih hK31 σ2 v4 v5 _ _ _ hf hw (lv_sub hl [0, 1, 2, 3, 4] rfl)
      · replace hf := hf.2 c4
        refine lv_iinc (v := (v4 + (1 : Int32))) (lv' := [(4, .int (v4 + (1 : Int32))), (0, .ref (lay 0 a0)), (1, .ref (lay 4 a1)), (3, .int a3), (5, .int v5)]) hx hb dX0_countInWords_22 hl (k := 3) rfl (by rfl) (by decide) rfl (fun ls hl => ?_)
        exact eX0_countInWords_b25_6 C hret hm0 hm1 ih hK31 σ2 (v4 + (1 : Int32)) v5 _ _ _ hf hw (lv_sub hl [1, 2, 3, 0, 4] rfl)
def fX0_countInWords (N : Nat) (σ : St) (a0 : Nat) (a1 : Nat) (a2 : Int32) (a3 : Int32) (Q : Int32 → St → Prop) : Prop := fX0_countInWords_l6 N a0 a1 a2 a3 Q (fun (σ5 : St) (u31_4 : Int32) => Q u31_4 σ5) N σ (0 : Int32) a2
set_option maxHeartbeats 4000000 in
set_option maxRecDepth 100000 in
theorem eX0_countInWords {l : Launch} {E : EC} {lay : Nat → Nat → Nat} {L : List (Nat × Nat)} {A : Nat → Prop} {N : Nat} {σ : St} {a0 : Nat} {a1 : Nat} {a2 : Int32} {a3 : Int32} {Q : Int32 → St → Prop} (hf : fX0_countInWords N σ a0 a1 a2 a3 Q) (hm0 : (0, a0) ∈ L) (hm1 : (4, a1) ∈ L) : Met l yX0_countInWords (.code yX0_countInWords cX0_countInWords 6 (some .int) :: big) rmX0_countInWords (va_Pc [.ref (lay 0 a0), .ref (lay 4 a1), .int a2, .int a3] (Bp E lay L A σ)) (va_Qi Q (Bd E lay L A) A) 0 0 A := by
  refine x_met (by decide +kernel) (Nat.le_of_ble_eq_true rfl) ?_
  intro p e s m args below meth c ls C hret hw hl
  have hx := C.1
  have hb := C.2.1
  have hl : lv_has ls 6 [(0, .ref (lay 0 a0)), (1, .ref (lay 4 a1)), (2, .int a2), (3, .int a3)] := hl
  unfold fX0_countInWords at hf
  refine lv_iconst (v := 0) hx hb dX0_countInWords_0 (by decide) ?_
  refine lv_istore (lv' := [(4, .int (0 : Int32)), (0, .ref (lay 0 a0)), (1, .ref (lay 4 a1)), (2, .int a2), (3, .int a3)]) hx hb dX0_countInWords_1 hl (by decide) rfl (fun ls hl => ?_)
  refine lv_iload_n hx hb dX0_countInWords_3 rfl (lv_at hl 3 rfl) ?_
  refine lv_istore (lv' := [(5, .int a2), (4, .int (0 : Int32)), (0, .ref (lay 0 a0)), (1, .ref (lay 4 a1)), (2, .int a2), (3, .int a3)]) hx hb dX0_countInWords_4 hl (by decide) rfl (fun ls hl => ?_)
  refine eX0_countInWords_l6 C hret hm0 hm1 ?_ N σ (0 : Int32) a2 _ _ _ hf hw (lv_sub hl [2, 3, 5, 1, 0] rfl)
  · intro σ5 u31_4 H locs ls hf hw hl
    refine lv_iload hx hb dX0_countInWords_31 (lv_at hl 0 rfl) ?_
    exact x_iret C hret hw hf dX0_countInWords_33
-- X0_countIn
abbrev rmX0_countIn : Room := { frames := 4, cells := 0, slots := 0, locals := 94 }
def fX0_countIn (N : Nat) (σ : St) (a0 : Nat) (a1 : Nat) (Q : Int32 → St → Prop) : Prop := ((¬ (sF σ 0 a0 0) = 0 → fX0_countInWords N σ a0 a1 (0 : Int32) (sF σ 4 a1 4) (fun (r3 : Int32) (σ2 : St) => Q r3 σ2)) ∧ ((sF σ 0 a0 0) = 0 → fX4_countSign N σ a1 (sF σ 0 a0 1) (fun (r5 : Int32) (σ4 : St) => Q r5 σ4)))
set_option maxHeartbeats 4000000 in
set_option maxRecDepth 100000 in
theorem eX0_countIn {l : Launch} {E : EC} {lay : Nat → Nat → Nat} {L : List (Nat × Nat)} {A : Nat → Prop} {N : Nat} {σ : St} {a0 : Nat} {a1 : Nat} {Q : Int32 → St → Prop} (hf : fX0_countIn N σ a0 a1 Q) (hm0 : (0, a0) ∈ L) (hm1 : (4, a1) ∈ L) : Met l yX0_countIn (.code yX0_countIn cX0_countIn 2 (some .int) :: big) rmX0_countIn (va_Pc [.ref (lay 0 a0), .ref (lay 4 a1)] (Bp E lay L A σ)) (va_Qi Q (Bd E lay L A) A) 0 0 A := by
  refine x_met (by decide +kernel) (Nat.le_of_ble_eq_true rfl) ?_
  intro p e s m args below meth c ls C hret hw hl
  have hx := C.1
  have hb := C.2.1
  have hl : lv_has ls 2 [(0, .ref (lay 0 a0)), (1, .ref (lay 4 a1))] := hl
  unfold fX0_countIn at hf
  refine lv_aload_n hx hb dX0_countIn_0 rfl (lv_at hl 0 rfl) ?_
  refine x_get (v := .int (sF σ 0 a0 0)) (j := 0) C hw hm0 rfl (by decide) (by decide) rfl q552 dX0_countIn_1 ?_
  refine lv_if_ne (tgt := 18) hx hb dX0_countIn_4 (by decide) (fun c1 => ?_) (fun c1 => ?_)
  · replace hf := hf.1 c1
    refine lv_aload_n hx hb dX0_countIn_18 rfl (lv_at hl 0 rfl) ?_
    refine lv_aload_n hx hb dX0_countIn_19 rfl (lv_at hl 1 rfl) ?_
    refine lv_iconst (v := 0) hx hb dX0_countIn_20 (by decide) ?_
    refine lv_aload_n hx hb dX0_countIn_21 rfl (lv_at hl 1 rfl) ?_
    refine x_getN (v := .int (sF σ 4 a1 4)) (j := 4) (host := "WhoseHand") C hw hm1 rfl (by decide) (by decide) rfl q246 dX0_countIn_22 ?_
    refine x_runi hw (x_V (n := 3) (rest := []) C hw hm0 (by decide) (eX0_countInWords hf hm0 hm1) q483 q484 q485 q57 q486 rfl rfl (by decide +kernel) ⟨Nat.le_of_ble_eq_true rfl, Nat.le_of_ble_eq_true rfl⟩ rfl hl.1 rfl (Nat.le_of_ble_eq_true rfl) dX0_countIn_25) (fun r3 σ2 H locs hf hw => ?_)
    try dsimp only at hf
    exact x_iret C hret hw hf dX0_countIn_28
  · replace hf := hf.2 c1
    refine lv_aload_n hx hb dX0_countIn_7 rfl (lv_at hl 1 rfl) ?_
    refine lv_aload_n hx hb dX0_countIn_8 rfl (lv_at hl 0 rfl) ?_
    refine x_get (v := .int (sF σ 0 a0 1)) (j := 1) C hw hm0 rfl (by decide) (by decide) rfl q554 dX0_countIn_9 ?_
    refine x_runi hw (x_V (n := 1) (rest := []) C hw hm1 (by decide) (eX4_countSign hf hm1) q479 q480 q481 q51 q482 rfl rfl (by decide +kernel) ⟨Nat.le_of_ble_eq_true rfl, Nat.le_of_ble_eq_true rfl⟩ rfl hl.1 rfl (Nat.le_of_ble_eq_true rfl) dX0_countIn_12) (fun r5 σ4 H locs hf hw => ?_)
    try dsimp only at hf
    refine lv_goto (tgt := 28) hx hb dX0_countIn_15 (by decide) ?_
    exact x_iret C hret hw hf dX0_countIn_28
-- X7_clear
abbrev rmX7_clear : Room := { frames := 0, cells := 0, slots := 0, locals := 0 }
def fX7_clear_l2 (N : Nat) (a0 : Nat) (Q : St → Prop) (Kx24 : St → Prop) : Nat → St → Int32 → Prop
  | 0, _, _ => False
  | n + 1, σ, v1 => (((12 : Int32) ≤ v1 → Kx24 σ) ∧ (¬ (12 : Int32) ≤ v1 → (vp_in v1 12 ∧ ∀ σ4 : St, σ4 = setA σ 29 a0 (v1).toNatClampNeg (0 : Int32) → fX7_clear_l2 N a0 Q Kx24 n σ4 (v1 + (1 : Int32)))))
set_option maxHeartbeats 4000000 in
set_option maxRecDepth 100000 in
theorem eX7_clear_l2 {p : Program} {l : Launch} {e : Env} {s : State} {m : MethodId} {args : Array Value} {below : List Frame} {meth : Method} {c : Code} {E : EC} {lay : Nat → Nat → Nat} {L : List (Nat × Nat)} {A : Nat → Prop} (C : Cx p s m args c meth yX7_clear.cls cX7_clear 2 E A) (hret : meth.sig.returnType = none) {N : Nat} {a0 : Nat} {Q : St → Prop} {Kx24 : St → Prop} (hm0 : (7, a0) ∈ L) (hK24 : ∀ (σ : St) (H : Heap) (locs : List Loc) (ls : Array Slot), Kx24 σ → Wo E lay L A s σ H locs → lv_has ls 2 [(0, .ref (lay 7 a0))] → W p l e rmX7_clear s m args below meth c H locs 0 0 (MQ below (va_Qv Q (Bd E lay L A) A) args s 0 0 A) (F0 m 24 ls [])) : ∀ (n : Nat) (σ : St) (v1 : Int32) (H : Heap) (locs : List Loc) (ls : Array Slot), fX7_clear_l2 N a0 Q Kx24 n σ v1 → Wo E lay L A s σ H locs → lv_has ls 2 [(0, .ref (lay 7 a0)), (1, .int v1)] → W p l e rmX7_clear s m args below meth c H locs 0 0 (MQ below (va_Qv Q (Bd E lay L A) A) args s 0 0 A) (F0 m 2 ls []) := by
  have hx := C.1
  have hb := C.2.1
  intro n
  induction n with
  | zero => intro σ v1 H locs ls hf; exact hf.elim
  | succ n ih =>
    intro σ v1 H locs ls hf hw hl
    rw [fX7_clear_l2] at hf
    refine lv_iload_n hx hb dX7_clear_2 rfl (lv_at hl 1 rfl) ?_
    refine lv_aload_n hx hb dX7_clear_3 rfl (lv_at hl 0 rfl) ?_
    have hm_1 : (29, a0) ∈ L := hw.2.2.2.1 7 a0 hm0 0 (by decide) (by decide) rfl
    refine x_get (v := .ref (lay 29 a0)) (j := 0) C hw hm0 rfl (by decide) (by decide) rfl q108 dX7_clear_4 ?_
    refine x_alen (v := 12) C hw hm_1 (by decide) (by decide) (by decide) dX7_clear_7 ?_
    refine lv_icmp_ge (tgt := 24) hx hb dX7_clear_8 (by decide) (fun c2 => ?_) (fun c2 => ?_)
    · replace hf := hf.1 c2
      exact hK24 σ _ _ _ hf hw (lv_sub hl [0] rfl)
    · replace hf := hf.2 c2
      refine lv_aload_n hx hb dX7_clear_11 rfl (lv_at hl 0 rfl) ?_
      have hm_3 : (29, a0) ∈ L := hw.2.2.2.1 7 a0 hm0 0 (by decide) (by decide) rfl
      refine x_get (v := .ref (lay 29 a0)) (j := 0) C hw hm0 rfl (by decide) (by decide) rfl q108 dX7_clear_12 ?_
      refine lv_iload_n hx hb dX7_clear_15 rfl (lv_at hl 1 rfl) ?_
      refine lv_iconst (v := 0) hx hb dX7_clear_16 (by decide) ?_
      refine x_iast C hw hm_3 (by decide) rfl hf.1 dX7_clear_17 (fun σ4 H locs eσ4 hw => ?_)
      replace hf := hf.2 σ4 eσ4
      refine lv_iinc (v := (v1 + (1 : Int32))) (lv' := [(1, .int (v1 + (1 : Int32))), (0, .ref (lay 7 a0))]) hx hb dX7_clear_18 hl (k := 1) rfl (by rfl) (by decide) rfl (fun ls hl => ?_)
      refine lv_goto (tgt := 2) hx hb dX7_clear_21 (by decide) ?_
      exact ih σ4 (v1 + (1 : Int32)) _ _ _ hf hw (lv_sub hl [1, 0] rfl)
def fX7_clear (N : Nat) (σ : St) (a0 : Nat) (Q : St → Prop) : Prop := fX7_clear_l2 N a0 Q (fun (σ5 : St) => ∀ σ6 : St, σ6 = setF σ5 7 a0 1 (0 : Int32) → ∀ σ7 : St, σ7 = setF σ6 7 a0 2 (0 : Int32) → Q σ7) N σ (0 : Int32)
set_option maxHeartbeats 4000000 in
set_option maxRecDepth 100000 in
theorem eX7_clear {l : Launch} {E : EC} {lay : Nat → Nat → Nat} {L : List (Nat × Nat)} {A : Nat → Prop} {N : Nat} {σ : St} {a0 : Nat} {Q : St → Prop} (hf : fX7_clear N σ a0 Q) (hm0 : (7, a0) ∈ L) : Met l yX7_clear (.code yX7_clear cX7_clear 2 (none) :: big) rmX7_clear (va_Pc [.ref (lay 7 a0)] (Bp E lay L A σ)) (va_Qv Q (Bd E lay L A) A) 0 0 A := by
  refine x_met (by decide +kernel) (Nat.le_of_ble_eq_true rfl) ?_
  intro p e s m args below meth c ls C hret hw hl
  have hx := C.1
  have hb := C.2.1
  have hl : lv_has ls 2 [(0, .ref (lay 7 a0))] := hl
  unfold fX7_clear at hf
  refine lv_iconst (v := 0) hx hb dX7_clear_0 (by decide) ?_
  refine lv_istore_n (lv' := [(1, .int (0 : Int32)), (0, .ref (lay 7 a0))]) hx hb dX7_clear_1 rfl hl (by decide) rfl (fun ls hl => ?_)
  refine eX7_clear_l2 C hret hm0 ?_ N σ (0 : Int32) _ _ _ hf hw (lv_sub hl [1, 0] rfl)
  · intro σ5 H locs ls hf hw hl
    refine lv_aload_n hx hb dX7_clear_24 rfl (lv_at hl 0 rfl) ?_
    refine lv_iconst (v := 0) hx hb dX7_clear_25 (by decide) ?_
    refine x_putI (j := 1) (ty := .int) C hw hm0 rfl (by decide) (by decide) rfl rfl (by decide +kernel) rfl rfl q109 dX7_clear_26 (fun σ6 H locs eσ6 hw => ?_)
    replace hf := hf σ6 eσ6
    refine lv_aload_n hx hb dX7_clear_29 rfl (lv_at hl 0 rfl) ?_
    refine lv_iconst (v := 0) hx hb dX7_clear_30 (by decide) ?_
    refine x_putI (j := 2) (ty := .int) C hw hm0 rfl (by decide) (by decide) rfl rfl (by decide +kernel) rfl rfl q111 dX7_clear_31 (fun σ7 H locs eσ7 hw => ?_)
    replace hf := hf σ7 eσ7
    exact x_vret C hret hw hf dX7_clear_34
-- X8_isKnown
abbrev rmX8_isKnown : Room := { frames := 0, cells := 0, slots := 0, locals := 0 }
def fX8_isKnown_b16 (N : Nat) (a0 : Nat) (Q : Int32 → St → Prop) (σ : St) : Prop := Q (1 : Int32) σ
set_option maxHeartbeats 4000000 in
set_option maxRecDepth 100000 in
theorem eX8_isKnown_b16 {p : Program} {l : Launch} {e : Env} {s : State} {m : MethodId} {args : Array Value} {below : List Frame} {meth : Method} {c : Code} {E : EC} {lay : Nat → Nat → Nat} {L : List (Nat × Nat)} {A : Nat → Prop} (C : Cx p s m args c meth yX8_isKnown.cls cX8_isKnown 1 E A) (hret : meth.sig.returnType = some .boolean) {N : Nat} {a0 : Nat} {Q : Int32 → St → Prop} (hm0 : (8, a0) ∈ L) (σ : St) (H : Heap) (locs : List Loc) (ls : Array Slot) (hf : fX8_isKnown_b16 N a0 Q σ) (hw : Wo E lay L A s σ H locs) (hl : lv_has ls 1 []) : W p l e rmX8_isKnown s m args below meth c H locs 0 0 (MQ below (va_Qi (fun r u => Q r u ∧ narrow .boolean (.int r) = .int r) (Bd E lay L A) A) args s 0 0 A) (F0 m 16 ls []) := by
  have hx := C.1
  have hb := C.2.1
  unfold fX8_isKnown_b16 at hf
  refine lv_iconst (v := 1) hx hb dX8_isKnown_16 (by decide) ?_
  refine lv_goto (tgt := 21) hx hb dX8_isKnown_17 (by decide) ?_
  exact x_zret C hret (by decide) hw ⟨hf, by decide⟩ dX8_isKnown_21
def fX8_isKnown (N : Nat) (σ : St) (a0 : Nat) (Q : Int32 → St → Prop) : Prop := (((sF σ 8 a0 0) = (1 : Int32) → fX8_isKnown_b16 N a0 Q σ) ∧ (¬ (sF σ 8 a0 0) = (1 : Int32) → ((¬ (sF σ 8 a0 0) = (2 : Int32) → Q (0 : Int32) σ) ∧ ((sF σ 8 a0 0) = (2 : Int32) → fX8_isKnown_b16 N a0 Q σ))))
set_option maxHeartbeats 4000000 in
set_option maxRecDepth 100000 in
theorem eX8_isKnown {l : Launch} {E : EC} {lay : Nat → Nat → Nat} {L : List (Nat × Nat)} {A : Nat → Prop} {N : Nat} {σ : St} {a0 : Nat} {Q : Int32 → St → Prop} (hf : fX8_isKnown N σ a0 Q) (hm0 : (8, a0) ∈ L) : Met l yX8_isKnown (.code yX8_isKnown cX8_isKnown 1 (some .boolean) :: big) rmX8_isKnown (va_Pc [.ref (lay 8 a0)] (Bp E lay L A σ)) (va_Qi (fun r u => Q r u ∧ narrow .boolean (.int r) = .int r) (Bd E lay L A) A) 0 0 A := by
  refine x_met (by decide +kernel) (Nat.le_of_ble_eq_true rfl) ?_
  intro p e s m args below meth c ls C hret hw hl
  have hx := C.1
  have hb := C.2.1
  have hl : lv_has ls 1 [(0, .ref (lay 8 a0))] := hl
  unfold fX8_isKnown at hf
  refine lv_aload_n hx hb dX8_isKnown_0 rfl (lv_at hl 0 rfl) ?_
  refine x_get (v := .int (sF σ 8 a0 0)) (j := 0) C hw hm0 rfl (by decide) (by decide) rfl q404 dX8_isKnown_1 ?_
  refine lv_iconst (v := 1) hx hb dX8_isKnown_4 (by decide) ?_
  refine lv_icmp_eq (tgt := 16) hx hb dX8_isKnown_5 (by decide) (fun c1 => ?_) (fun c1 => ?_)
  · replace hf := hf.1 c1
    exact eX8_isKnown_b16 C hret hm0 σ _ _ _ hf hw (lv_sub hl [] rfl)
  · replace hf := hf.2 c1
    refine lv_aload_n hx hb dX8_isKnown_8 rfl (lv_at hl 0 rfl) ?_
    refine x_get (v := .int (sF σ 8 a0 0)) (j := 0) C hw hm0 rfl (by decide) (by decide) rfl q404 dX8_isKnown_9 ?_
    refine lv_iconst (v := 2) hx hb dX8_isKnown_12 (by decide) ?_
    refine lv_icmp_ne (tgt := 20) hx hb dX8_isKnown_13 (by decide) (fun c2 => ?_) (fun c2 => ?_)
    · replace hf := hf.1 c2
      refine lv_iconst (v := 0) hx hb dX8_isKnown_20 (by decide) ?_
      exact x_zret C hret (by decide) hw ⟨hf, by decide⟩ dX8_isKnown_21
    · replace hf := hf.2 c2
      exact eX8_isKnown_b16 C hret hm0 σ _ _ _ hf hw (lv_sub hl [] rfl)
-- X8_isInHand
abbrev rmX8_isInHand : Room := { frames := 1, cells := 0, slots := 0, locals := 20 }
def fX8_isInHand (N : Nat) (σ : St) (a0 : Nat) (Q : Int32 → St → Prop) : Prop := fX8_isKnown N σ a0 (fun (r2 : Int32) (σ1 : St) => ((r2 = 0 → Q (0 : Int32) σ1) ∧ (¬ r2 = 0 → ((¬ (sF σ1 8 a0 5) = 0 → Q (0 : Int32) σ1) ∧ ((sF σ1 8 a0 5) = 0 → Q (1 : Int32) σ1)))))
set_option maxHeartbeats 4000000 in
set_option maxRecDepth 100000 in
theorem eX8_isInHand {l : Launch} {E : EC} {lay : Nat → Nat → Nat} {L : List (Nat × Nat)} {A : Nat → Prop} {N : Nat} {σ : St} {a0 : Nat} {Q : Int32 → St → Prop} (hf : fX8_isInHand N σ a0 Q) (hm0 : (8, a0) ∈ L) : Met l yX8_isInHand (.code yX8_isInHand cX8_isInHand 1 (some .boolean) :: big) rmX8_isInHand (va_Pc [.ref (lay 8 a0)] (Bp E lay L A σ)) (va_Qi (fun r u => Q r u ∧ narrow .boolean (.int r) = .int r) (Bd E lay L A) A) 0 0 A := by
  refine x_met (by decide +kernel) (Nat.le_of_ble_eq_true rfl) ?_
  intro p e s m args below meth c ls C hret hw hl
  have hx := C.1
  have hb := C.2.1
  have hl : lv_has ls 1 [(0, .ref (lay 8 a0))] := hl
  unfold fX8_isInHand at hf
  refine lv_aload_n hx hb dX8_isInHand_0 rfl (lv_at hl 0 rfl) ?_
  refine x_runi hw (x_V (n := 0) (rest := []) C hw hm0 (by decide) (eX8_isKnown hf hm0) q623 q526 q527 q55 q528 rfl rfl (by decide +kernel) ⟨Nat.le_of_ble_eq_true rfl, Nat.le_of_ble_eq_true rfl⟩ rfl hl.1 rfl (Nat.le_of_ble_eq_true rfl) dX8_isInHand_1) (fun r2 σ1 H locs hf hw => ?_)
  have hzr2 := hf.2
  replace hf := hf.1
  try dsimp only at hf
  refine lv_if_eq (tgt := 18) hx hb dX8_isInHand_4 (by decide) (fun c3 => ?_) (fun c3 => ?_)
  · replace hf := hf.1 c3
    refine lv_iconst (v := 0) hx hb dX8_isInHand_18 (by decide) ?_
    exact x_zret C hret (by decide) hw ⟨hf, by decide⟩ dX8_isInHand_19
  · replace hf := hf.2 c3
    refine lv_aload_n hx hb dX8_isInHand_7 rfl (lv_at hl 0 rfl) ?_
    refine x_get (v := .int (sF σ1 8 a0 5)) (j := 5) C hw hm0 rfl (by decide) (by decide) rfl q418 dX8_isInHand_8 ?_
    refine lv_if_ne (tgt := 18) hx hb dX8_isInHand_11 (by decide) (fun c4 => ?_) (fun c4 => ?_)
    · replace hf := hf.1 c4
      refine lv_iconst (v := 0) hx hb dX8_isInHand_18 (by decide) ?_
      exact x_zret C hret (by decide) hw ⟨hf, by decide⟩ dX8_isInHand_19
    · replace hf := hf.2 c4
      refine lv_iconst (v := 1) hx hb dX8_isInHand_14 (by decide) ?_
      refine lv_goto (tgt := 19) hx hb dX8_isInHand_15 (by decide) ?_
      exact x_zret C hret (by decide) hw ⟨hf, by decide⟩ dX8_isInHand_19
-- X8_isBy
abbrev rmX8_isBy : Room := { frames := 2, cells := 0, slots := 0, locals := 40 }
def fX8_isBy (N : Nat) (σ : St) (a0 : Nat) (a1 : Int32) (Q : Int32 → St → Prop) : Prop := fX8_isInHand N σ a0 (fun (r2 : Int32) (σ1 : St) => ((r2 = 0 → Q (0 : Int32) σ1) ∧ (¬ r2 = 0 → ((¬ (sF σ1 8 a0 1) = a1 → Q (0 : Int32) σ1) ∧ ((sF σ1 8 a0 1) = a1 → Q (1 : Int32) σ1)))))
set_option maxHeartbeats 4000000 in
set_option maxRecDepth 100000 in
theorem eX8_isBy {l : Launch} {E : EC} {lay : Nat → Nat → Nat} {L : List (Nat × Nat)} {A : Nat → Prop} {N : Nat} {σ : St} {a0 : Nat} {a1 : Int32} {Q : Int32 → St → Prop} (hf : fX8_isBy N σ a0 a1 Q) (hm0 : (8, a0) ∈ L) : Met l yX8_isBy (.code yX8_isBy cX8_isBy 2 (some .boolean) :: big) rmX8_isBy (va_Pc [.ref (lay 8 a0), .int a1] (Bp E lay L A σ)) (va_Qi (fun r u => Q r u ∧ narrow .boolean (.int r) = .int r) (Bd E lay L A) A) 0 0 A := by
  refine x_met (by decide +kernel) (Nat.le_of_ble_eq_true rfl) ?_
  intro p e s m args below meth c ls C hret hw hl
  have hx := C.1
  have hb := C.2.1
  have hl : lv_has ls 2 [(0, .ref (lay 8 a0)), (1, .int a1)] := hl
  unfold fX8_isBy at hf
  refine lv_aload_n hx hb dX8_isBy_0 rfl (lv_at hl 0 rfl) ?_
  refine x_runi hw (x_V (n := 0) (rest := []) C hw hm0 (by decide) (eX8_isInHand hf hm0) q619 q620 q621 q55 q622 rfl rfl (by decide +kernel) ⟨Nat.le_of_ble_eq_true rfl, Nat.le_of_ble_eq_true rfl⟩ rfl hl.1 rfl (Nat.le_of_ble_eq_true rfl) dX8_isBy_1) (fun r2 σ1 H locs hf hw => ?_)
  have hzr2 := hf.2
  replace hf := hf.1
  try dsimp only at hf
  refine lv_if_eq (tgt := 19) hx hb dX8_isBy_4 (by decide) (fun c3 => ?_) (fun c3 => ?_)
  · replace hf := hf.1 c3
    refine lv_iconst (v := 0) hx hb dX8_isBy_19 (by decide) ?_
    exact x_zret C hret (by decide) hw ⟨hf, by decide⟩ dX8_isBy_20
  · replace hf := hf.2 c3
    refine lv_aload_n hx hb dX8_isBy_7 rfl (lv_at hl 0 rfl) ?_
    refine x_get (v := .int (sF σ1 8 a0 1)) (j := 1) C hw hm0 rfl (by decide) (by decide) rfl q406 dX8_isBy_8 ?_
    refine lv_iload_n hx hb dX8_isBy_11 rfl (lv_at hl 1 rfl) ?_
    refine lv_icmp_ne (tgt := 19) hx hb dX8_isBy_12 (by decide) (fun c4 => ?_) (fun c4 => ?_)
    · replace hf := hf.1 c4
      refine lv_iconst (v := 0) hx hb dX8_isBy_19 (by decide) ?_
      exact x_zret C hret (by decide) hw ⟨hf, by decide⟩ dX8_isBy_20
    · replace hf := hf.2 c4
      refine lv_iconst (v := 1) hx hb dX8_isBy_15 (by decide) ?_
      refine lv_goto (tgt := 20) hx hb dX8_isBy_16 (by decide) ?_
      exact x_zret C hret (by decide) hw ⟨hf, by decide⟩ dX8_isBy_20
-- X7_add
abbrev rmX7_add : Room := { frames := 0, cells := 0, slots := 0, locals := 0 }
def fX7_add_l2 (N : Nat) (a0 : Nat) (a1 : Nat) (Q : St → Prop) (Kx32 : St → Prop) : Nat → St → Int32 → Prop
  | 0, _, _ => False
  | n + 1, σ, v2 => (((12 : Int32) ≤ v2 → Kx32 σ) ∧ (¬ (12 : Int32) ≤ v2 → (vp_in v2 12 ∧ (vp_in v2 12 ∧ (vp_in v2 12 ∧ ∀ σ5 : St, σ5 = setA σ 29 a0 (v2).toNatClampNeg ((sA σ 29 a0 (v2).toNatClampNeg) + (sA σ 29 a1 (v2).toNatClampNeg)) → fX7_add_l2 N a0 a1 Q Kx32 n σ5 (v2 + (1 : Int32)))))))
set_option maxHeartbeats 4000000 in
set_option maxRecDepth 100000 in
theorem eX7_add_l2 {p : Program} {l : Launch} {e : Env} {s : State} {m : MethodId} {args : Array Value} {below : List Frame} {meth : Method} {c : Code} {E : EC} {lay : Nat → Nat → Nat} {L : List (Nat × Nat)} {A : Nat → Prop} (C : Cx p s m args c meth yX7_add.cls cX7_add 3 E A) (hret : meth.sig.returnType = none) {N : Nat} {a0 : Nat} {a1 : Nat} {Q : St → Prop} {Kx32 : St → Prop} (hm0 : (7, a0) ∈ L) (hm1 : (7, a1) ∈ L) (hK32 : ∀ (σ : St) (H : Heap) (locs : List Loc) (ls : Array Slot), Kx32 σ → Wo E lay L A s σ H locs → lv_has ls 3 [(0, .ref (lay 7 a0)), (1, .ref (lay 7 a1))] → W p l e rmX7_add s m args below meth c H locs 0 0 (MQ below (va_Qv Q (Bd E lay L A) A) args s 0 0 A) (F0 m 32 ls [])) : ∀ (n : Nat) (σ : St) (v2 : Int32) (H : Heap) (locs : List Loc) (ls : Array Slot), fX7_add_l2 N a0 a1 Q Kx32 n σ v2 → Wo E lay L A s σ H locs → lv_has ls 3 [(0, .ref (lay 7 a0)), (1, .ref (lay 7 a1)), (2, .int v2)] → W p l e rmX7_add s m args below meth c H locs 0 0 (MQ below (va_Qv Q (Bd E lay L A) A) args s 0 0 A) (F0 m 2 ls []) := by
  have hx := C.1
  have hb := C.2.1
  intro n
  induction n with
  | zero => intro σ v2 H locs ls hf; exact hf.elim
  | succ n ih =>
    intro σ v2 H locs ls hf hw hl
    rw [fX7_add_l2] at hf
    refine lv_iload_n hx hb dX7_add_2 rfl (lv_at hl 2 rfl) ?_
    refine lv_aload_n hx hb dX7_add_3 rfl (lv_at hl 0 rfl) ?_
    have hm_1 : (29, a0) ∈ L := hw.2.2.2.1 7 a0 hm0 0 (by decide) (by decide) rfl
    refine x_get (v := .ref (lay 29 a0)) (j := 0) C hw hm0 rfl (by decide) (by decide) rfl q108 dX7_add_4 ?_
    refine x_alen (v := 12) C hw hm_1 (by decide) (by decide) (by decide) dX7_add_7 ?_
    refine lv_icmp_ge (tgt := 32) hx hb dX7_add_8 (by decide) (fun c2 => ?_) (fun c2 => ?_)
    · replace hf := hf.1 c2
      exact hK32 σ _ _ _ hf hw (lv_sub hl [0, 1] rfl)
    · replace hf := hf.2 c2
      refine lv_aload_n hx hb dX7_add_11 rfl (lv_at hl 0 rfl) ?_
      have hm_3 : (29, a0) ∈ L := hw.2.2.2.1 7 a0 hm0 0 (by decide) (by decide) rfl
      refine x_get (v := .ref (lay 29 a0)) (j := 0) C hw hm0 rfl (by decide) (by decide) rfl q108 dX7_add_12 ?_
      refine lv_iload_n hx hb dX7_add_15 rfl (lv_at hl 2 rfl) ?_
      refine lv_dup2_11 hx hb dX7_add_16 rfl rfl ?_
      refine x_iald C hw hm_3 (by decide) rfl hf.1 dX7_add_17 ?_
      replace hf := hf.2
      refine lv_aload_n hx hb dX7_add_18 rfl (lv_at hl 1 rfl) ?_
      have hm_4 : (29, a1) ∈ L := hw.2.2.2.1 7 a1 hm1 0 (by decide) (by decide) rfl
      refine x_get (v := .ref (lay 29 a1)) (j := 0) C hw hm1 rfl (by decide) (by decide) rfl q108 dX7_add_19 ?_
      refine lv_iload_n hx hb dX7_add_22 rfl (lv_at hl 2 rfl) ?_
      refine x_iald C hw hm_4 (by decide) rfl hf.1 dX7_add_23 ?_
      replace hf := hf.2
      refine lv_iadd hx hb dX7_add_24 ?_
      refine x_iast C hw hm_3 (by decide) rfl hf.1 dX7_add_25 (fun σ5 H locs eσ5 hw => ?_)
      replace hf := hf.2 σ5 eσ5
      refine lv_iinc (v := (v2 + (1 : Int32))) (lv' := [(2, .int (v2 + (1 : Int32))), (0, .ref (lay 7 a0)), (1, .ref (lay 7 a1))]) hx hb dX7_add_26 hl (k := 2) rfl (by rfl) (by decide) rfl (fun ls hl => ?_)
      refine lv_goto (tgt := 2) hx hb dX7_add_29 (by decide) ?_
      exact ih σ5 (v2 + (1 : Int32)) _ _ _ hf hw (lv_sub hl [1, 2, 0] rfl)
def fX7_add (N : Nat) (σ : St) (a0 : Nat) (a1 : Nat) (Q : St → Prop) : Prop := fX7_add_l2 N a0 a1 Q (fun (σ6 : St) => ∀ σ7 : St, σ7 = setF σ6 7 a0 1 ((sF σ6 7 a0 1) + (sF σ6 7 a1 1)) → ∀ σ8 : St, σ8 = setF σ7 7 a0 2 ((sF σ7 7 a0 2) + (sF σ7 7 a1 2)) → Q σ8) N σ (0 : Int32)
set_option maxHeartbeats 4000000 in
set_option maxRecDepth 100000 in
theorem eX7_add {l : Launch} {E : EC} {lay : Nat → Nat → Nat} {L : List (Nat × Nat)} {A : Nat → Prop} {N : Nat} {σ : St} {a0 : Nat} {a1 : Nat} {Q : St → Prop} (hf : fX7_add N σ a0 a1 Q) (hm0 : (7, a0) ∈ L) (hm1 : (7, a1) ∈ L) : Met l yX7_add (.code yX7_add cX7_add 3 (none) :: big) rmX7_add (va_Pc [.ref (lay 7 a0), .ref (lay 7 a1)] (Bp E lay L A σ)) (va_Qv Q (Bd E lay L A) A) 0 0 A := by
  refine x_met (by decide +kernel) (Nat.le_of_ble_eq_true rfl) ?_
  intro p e s m args below meth c ls C hret hw hl
  have hx := C.1
  have hb := C.2.1
  have hl : lv_has ls 3 [(0, .ref (lay 7 a0)), (1, .ref (lay 7 a1))] := hl
  unfold fX7_add at hf
  refine lv_iconst (v := 0) hx hb dX7_add_0 (by decide) ?_
  refine lv_istore_n (lv' := [(2, .int (0 : Int32)), (0, .ref (lay 7 a0)), (1, .ref (lay 7 a1))]) hx hb dX7_add_1 rfl hl (by decide) rfl (fun ls hl => ?_)
  refine eX7_add_l2 C hret hm0 hm1 ?_ N σ (0 : Int32) _ _ _ hf hw (lv_sub hl [1, 2, 0] rfl)
  · intro σ6 H locs ls hf hw hl
    refine lv_aload_n hx hb dX7_add_32 rfl (lv_at hl 0 rfl) ?_
    refine lv_dup hx hb dX7_add_33 rfl ?_
    refine x_get (v := .int (sF σ6 7 a0 1)) (j := 1) C hw hm0 rfl (by decide) (by decide) rfl q109 dX7_add_34 ?_
    refine lv_aload_n hx hb dX7_add_37 rfl (lv_at hl 1 rfl) ?_
    refine x_get (v := .int (sF σ6 7 a1 1)) (j := 1) C hw hm1 rfl (by decide) (by decide) rfl q109 dX7_add_38 ?_
    refine lv_iadd hx hb dX7_add_41 ?_
    refine x_putI (j := 1) (ty := .int) C hw hm0 rfl (by decide) (by decide) rfl rfl (by decide +kernel) rfl rfl q109 dX7_add_42 (fun σ7 H locs eσ7 hw => ?_)
    replace hf := hf σ7 eσ7
    refine lv_aload_n hx hb dX7_add_45 rfl (lv_at hl 0 rfl) ?_
    refine lv_dup hx hb dX7_add_46 rfl ?_
    refine x_get (v := .int (sF σ7 7 a0 2)) (j := 2) C hw hm0 rfl (by decide) (by decide) rfl q111 dX7_add_47 ?_
    refine lv_aload_n hx hb dX7_add_50 rfl (lv_at hl 1 rfl) ?_
    refine x_get (v := .int (sF σ7 7 a1 2)) (j := 2) C hw hm1 rfl (by decide) (by decide) rfl q111 dX7_add_51 ?_
    refine lv_iadd hx hb dX7_add_54 ?_
    refine x_putI (j := 2) (ty := .int) C hw hm0 rfl (by decide) (by decide) rfl rfl (by decide +kernel) rfl rfl q111 dX7_add_55 (fun σ8 H locs eσ8 hw => ?_)
    replace hf := hf σ8 eσ8
    exact x_vret C hret hw hf dX7_add_58
-- X7_countOf
abbrev rmX7_countOf : Room := { frames := 0, cells := 0, slots := 0, locals := 0 }
def fX7_countOf (N : Nat) (σ : St) (a0 : Nat) (a1 : Int32) (Q : Int32 → St → Prop) : Prop := ((a1 < 0 → Q (0 : Int32) σ) ∧ (¬ a1 < 0 → (((12 : Int32) ≤ a1 → Q (0 : Int32) σ) ∧ (¬ (12 : Int32) ≤ a1 → (vp_in a1 12 ∧ Q (sA σ 29 a0 (a1).toNatClampNeg) σ)))))
set_option maxHeartbeats 4000000 in
set_option maxRecDepth 100000 in
theorem eX7_countOf {l : Launch} {E : EC} {lay : Nat → Nat → Nat} {L : List (Nat × Nat)} {A : Nat → Prop} {N : Nat} {σ : St} {a0 : Nat} {a1 : Int32} {Q : Int32 → St → Prop} (hf : fX7_countOf N σ a0 a1 Q) (hm0 : (7, a0) ∈ L) : Met l yX7_countOf (.code yX7_countOf cX7_countOf 2 (some .int) :: big) rmX7_countOf (va_Pc [.ref (lay 7 a0), .int a1] (Bp E lay L A σ)) (va_Qi Q (Bd E lay L A) A) 0 0 A := by
  refine x_met (by decide +kernel) (Nat.le_of_ble_eq_true rfl) ?_
  intro p e s m args below meth c ls C hret hw hl
  have hx := C.1
  have hb := C.2.1
  have hl : lv_has ls 2 [(0, .ref (lay 7 a0)), (1, .int a1)] := hl
  unfold fX7_countOf at hf
  refine lv_iload_n hx hb dX7_countOf_0 rfl (lv_at hl 1 rfl) ?_
  refine lv_if_lt (tgt := 22) hx hb dX7_countOf_1 (by decide) (fun c1 => ?_) (fun c1 => ?_)
  · replace hf := hf.1 c1
    refine lv_iconst (v := 0) hx hb dX7_countOf_22 (by decide) ?_
    exact x_iret C hret hw hf dX7_countOf_23
  · replace hf := hf.2 c1
    refine lv_iload_n hx hb dX7_countOf_4 rfl (lv_at hl 1 rfl) ?_
    refine lv_aload_n hx hb dX7_countOf_5 rfl (lv_at hl 0 rfl) ?_
    have hm_2 : (29, a0) ∈ L := hw.2.2.2.1 7 a0 hm0 0 (by decide) (by decide) rfl
    refine x_get (v := .ref (lay 29 a0)) (j := 0) C hw hm0 rfl (by decide) (by decide) rfl q108 dX7_countOf_6 ?_
    refine x_alen (v := 12) C hw hm_2 (by decide) (by decide) (by decide) dX7_countOf_9 ?_
    refine lv_icmp_ge (tgt := 22) hx hb dX7_countOf_10 (by decide) (fun c3 => ?_) (fun c3 => ?_)
    · replace hf := hf.1 c3
      refine lv_iconst (v := 0) hx hb dX7_countOf_22 (by decide) ?_
      exact x_iret C hret hw hf dX7_countOf_23
    · replace hf := hf.2 c3
      refine lv_aload_n hx hb dX7_countOf_13 rfl (lv_at hl 0 rfl) ?_
      have hm_4 : (29, a0) ∈ L := hw.2.2.2.1 7 a0 hm0 0 (by decide) (by decide) rfl
      refine x_get (v := .ref (lay 29 a0)) (j := 0) C hw hm0 rfl (by decide) (by decide) rfl q108 dX7_countOf_14 ?_
      refine lv_iload_n hx hb dX7_countOf_17 rfl (lv_at hl 1 rfl) ?_
      refine x_iald C hw hm_4 (by decide) rfl hf.1 dX7_countOf_18 ?_
      replace hf := hf.2
      refine lv_goto (tgt := 23) hx hb dX7_countOf_19 (by decide) ?_
      exact x_iret C hret hw hf dX7_countOf_23
-- X2_wholeOf
abbrev rmX2_wholeOf : Room := { frames := 0, cells := 0, slots := 0, locals := 0 }
def fX2_wholeOf_b29 (N : Nat) (a1 : Nat) (a2 : Int32) (Q : Int32 → St → Prop) (σ : St) : Prop := Q (sF σ 7 a1 1) σ
set_option maxHeartbeats 4000000 in
set_option maxRecDepth 100000 in
theorem eX2_wholeOf_b29 {p : Program} {l : Launch} {e : Env} {s : State} {m : MethodId} {args : Array Value} {below : List Frame} {meth : Method} {c : Code} {E : EC} {lay : Nat → Nat → Nat} {L : List (Nat × Nat)} {A : Nat → Prop} (C : Cx p s m args c meth yX2_wholeOf.cls cX2_wholeOf 3 E A) (hret : meth.sig.returnType = some .int) {N : Nat} {a1 : Nat} {a2 : Int32} {Q : Int32 → St → Prop} (hm0 : (2, 0) ∈ L) (hm1 : (7, a1) ∈ L) (σ : St) (H : Heap) (locs : List Loc) (ls : Array Slot) (hf : fX2_wholeOf_b29 N a1 a2 Q σ) (hw : Wo E lay L A s σ H locs) (hl : lv_has ls 3 [(1, .ref (lay 7 a1))]) : W p l e rmX2_wholeOf s m args below meth c H locs 0 0 (MQ below (va_Qi Q (Bd E lay L A) A) args s 0 0 A) (F0 m 29 ls []) := by
  have hx := C.1
  have hb := C.2.1
  unfold fX2_wholeOf_b29 at hf
  refine lv_aload_n hx hb dX2_wholeOf_29 rfl (lv_at hl 0 rfl) ?_
  refine x_getN (v := .int (sF σ 7 a1 1)) (j := 1) (host := "WhoseHand") C hw hm1 rfl (by decide) (by decide) rfl q110 dX2_wholeOf_30 ?_
  exact x_iret C hret hw hf dX2_wholeOf_33
def fX2_wholeOf (N : Nat) (σ : St) (a1 : Nat) (a2 : Int32) (Q : Int32 → St → Prop) : Prop := ((a2 < 0 → fX2_wholeOf_b29 N a1 a2 Q σ) ∧ (¬ a2 < 0 → (((12 : Int32) ≤ a2 → fX2_wholeOf_b29 N a1 a2 Q σ) ∧ (¬ (12 : Int32) ≤ a2 → (vp_in a2 12 ∧ (((sA σ 31 0 (a2).toNatClampNeg) = 0 → fX2_wholeOf_b29 N a1 a2 Q σ) ∧ (¬ (sA σ 31 0 (a2).toNatClampNeg) = 0 → Q (sF σ 7 a1 2) σ)))))))
set_option maxHeartbeats 4000000 in
set_option maxRecDepth 100000 in
theorem eX2_wholeOf {l : Launch} {E : EC} {lay : Nat → Nat → Nat} {L : List (Nat × Nat)} {A : Nat → Prop} {N : Nat} {σ : St} {a1 : Nat} {a2 : Int32} {Q : Int32 → St → Prop} (hf : fX2_wholeOf N σ a1 a2 Q) (hm0 : (2, 0) ∈ L) (hm1 : (7, a1) ∈ L) : Met l yX2_wholeOf (.code yX2_wholeOf cX2_wholeOf 3 (some .int) :: big) rmX2_wholeOf (va_Pc [.ref (lay 2 0), .ref (lay 7 a1), .int a2] (Bp E lay L A σ)) (va_Qi Q (Bd E lay L A) A) 0 0 A := by
  refine x_met (by decide +kernel) (Nat.le_of_ble_eq_true rfl) ?_
  intro p e s m args below meth c ls C hret hw hl
  have hx := C.1
  have hb := C.2.1
  have hl : lv_has ls 3 [(0, .ref (lay 2 0)), (1, .ref (lay 7 a1)), (2, .int a2)] := hl
  unfold fX2_wholeOf at hf
  refine lv_iload_n hx hb dX2_wholeOf_0 rfl (lv_at hl 2 rfl) ?_
  refine lv_if_lt (tgt := 29) hx hb dX2_wholeOf_1 (by decide) (fun c1 => ?_) (fun c1 => ?_)
  · replace hf := hf.1 c1
    exact eX2_wholeOf_b29 C hret hm0 hm1 σ _ _ _ hf hw (lv_sub hl [1] rfl)
  · replace hf := hf.2 c1
    refine lv_iload_n hx hb dX2_wholeOf_4 rfl (lv_at hl 2 rfl) ?_
    refine lv_aload_n hx hb dX2_wholeOf_5 rfl (lv_at hl 0 rfl) ?_
    have hm_2 : (31, 0) ∈ L := hw.2.2.2.1 2 0 hm0 1 (by decide) (by decide) rfl
    refine x_get (v := .ref (lay 31 0)) (j := 1) C hw hm0 rfl (by decide) (by decide) rfl q79 dX2_wholeOf_6 ?_
    refine x_alen (v := 12) C hw hm_2 (by decide) (by decide) (by decide) dX2_wholeOf_9 ?_
    refine lv_icmp_ge (tgt := 29) hx hb dX2_wholeOf_10 (by decide) (fun c3 => ?_) (fun c3 => ?_)
    · replace hf := hf.1 c3
      exact eX2_wholeOf_b29 C hret hm0 hm1 σ _ _ _ hf hw (lv_sub hl [1] rfl)
    · replace hf := hf.2 c3
      refine lv_aload_n hx hb dX2_wholeOf_13 rfl (lv_at hl 0 rfl) ?_
      have hm_4 : (31, 0) ∈ L := hw.2.2.2.1 2 0 hm0 1 (by decide) (by decide) rfl
      refine x_get (v := .ref (lay 31 0)) (j := 1) C hw hm0 rfl (by decide) (by decide) rfl q79 dX2_wholeOf_14 ?_
      refine lv_iload_n hx hb dX2_wholeOf_17 rfl (lv_at hl 2 rfl) ?_
      refine x_zald C hw hm_4 (by decide) rfl hf.1 dX2_wholeOf_18 ?_
      replace hf := hf.2
      refine lv_if_eq (tgt := 29) hx hb dX2_wholeOf_19 (by decide) (fun c5 => ?_) (fun c5 => ?_)
      · replace hf := hf.1 c5
        exact eX2_wholeOf_b29 C hret hm0 hm1 σ _ _ _ hf hw (lv_sub hl [1] rfl)
      · replace hf := hf.2 c5
        refine lv_aload_n hx hb dX2_wholeOf_22 rfl (lv_at hl 1 rfl) ?_
        refine x_getN (v := .int (sF σ 7 a1 2)) (j := 2) (host := "WhoseHand") C hw hm1 rfl (by decide) (by decide) rfl q112 dX2_wholeOf_23 ?_
        refine lv_goto (tgt := 33) hx hb dX2_wholeOf_26 (by decide) ?_
        exact x_iret C hret hw hf dX2_wholeOf_33
-- X10_thousandths
abbrev rmX10_thousandths : Room := { frames := 0, cells := 0, slots := 0, locals := 0 }
def fX10_thousandths (N : Nat) (σ : St) (a0 : Int32) (a1 : Int32) (Q : Int32 → St → Prop) : Prop := ((0 < a1 → (¬ a1 = 0 ∧ Q (((1000 : Int32) * a0) / a1) σ)) ∧ (¬ 0 < a1 → Q (0 : Int32) σ))
set_option maxHeartbeats 4000000 in
set_option maxRecDepth 100000 in
theorem eX10_thousandths {l : Launch} {E : EC} {lay : Nat → Nat → Nat} {L : List (Nat × Nat)} {A : Nat → Prop} {N : Nat} {σ : St} {a0 : Int32} {a1 : Int32} {Q : Int32 → St → Prop} (hf : fX10_thousandths N σ a0 a1 Q) : Met l yX10_thousandths (.code yX10_thousandths cX10_thousandths 2 (some .int) :: big) rmX10_thousandths (va_Pc [.int a0, .int a1] (Bp E lay L A σ)) (va_Qi Q (Bd E lay L A) A) 0 0 A := by
  refine x_met (by decide +kernel) (Nat.le_of_ble_eq_true rfl) ?_
  intro p e s m args below meth c ls C hret hw hl
  have hx := C.1
  have hb := C.2.1
  have hl : lv_has ls 2 [(0, .int a0), (1, .int a1)] := hl
  unfold fX10_thousandths at hf
  refine lv_iload_n hx hb dX10_thousandths_0 rfl (lv_at hl 1 rfl) ?_
  refine lv_if_gt (tgt := 8) hx hb dX10_thousandths_1 (by decide) (fun c1 => ?_) (fun c1 => ?_)
  · replace hf := hf.1 c1
    refine lv_sipush (v := 1000) hx hb dX10_thousandths_8 (by decide) ?_
    refine lv_iload_n hx hb dX10_thousandths_11 rfl (lv_at hl 0 rfl) ?_
    refine lv_imul hx hb dX10_thousandths_12 ?_
    refine lv_iload_n hx hb dX10_thousandths_13 rfl (lv_at hl 1 rfl) ?_
    refine lv_idiv hx hb dX10_thousandths_14 hf.1 ?_
    replace hf := hf.2
    exact x_iret C hret hw hf dX10_thousandths_15
  · replace hf := hf.2 c1
    refine lv_iconst (v := 0) hx hb dX10_thousandths_4 (by decide) ?_
    refine lv_goto (tgt := 15) hx hb dX10_thousandths_5 (by decide) ?_
    exact x_iret C hret hw hf dX10_thousandths_15
-- X2_rateIn
abbrev rmX2_rateIn : Room := { frames := 1, cells := 0, slots := 0, locals := 22 }
def fX2_rateIn (N : Nat) (σ : St) (a1 : Nat) (a2 : Int32) (Q : Int32 → St → Prop) : Prop := fX7_countOf N σ a1 a2 (fun (r2 : Int32) (σ1 : St) => fX2_wholeOf N σ1 a1 a2 (fun (r4 : Int32) (σ3 : St) => fX10_thousandths N σ3 r2 r4 (fun (r6 : Int32) (σ5 : St) => Q r6 σ5)))
set_option maxHeartbeats 4000000 in
set_option maxRecDepth 100000 in
theorem eX2_rateIn {l : Launch} {E : EC} {lay : Nat → Nat → Nat} {L : List (Nat × Nat)} {A : Nat → Prop} {N : Nat} {σ : St} {a1 : Nat} {a2 : Int32} {Q : Int32 → St → Prop} (hf : fX2_rateIn N σ a1 a2 Q) (hm0 : (2, 0) ∈ L) (hm1 : (7, a1) ∈ L) : Met l yX2_rateIn (.code yX2_rateIn cX2_rateIn 3 (some .int) :: big) rmX2_rateIn (va_Pc [.ref (lay 2 0), .ref (lay 7 a1), .int a2] (Bp E lay L A σ)) (va_Qi Q (Bd E lay L A) A) 0 0 A := by
  refine x_met (by decide +kernel) (Nat.le_of_ble_eq_true rfl) ?_
  intro p e s m args below meth c ls C hret hw hl
  have hx := C.1
  have hb := C.2.1
  have hl : lv_has ls 3 [(0, .ref (lay 2 0)), (1, .ref (lay 7 a1)), (2, .int a2)] := hl
  unfold fX2_rateIn at hf
  refine lv_aload_n hx hb dX2_rateIn_0 rfl (lv_at hl 1 rfl) ?_
  refine lv_iload_n hx hb dX2_rateIn_1 rfl (lv_at hl 2 rfl) ?_
  refine x_runi hw (x_V (n := 1) (rest := []) C hw hm1 (by decide) (eX7_countOf hf hm1) q595 q584 q585 q47 q586 rfl rfl (by decide +kernel) ⟨Nat.le_of_ble_eq_true rfl, Nat.le_of_ble_eq_true rfl⟩ rfl hl.1 rfl (Nat.le_of_ble_eq_true rfl) dX2_rateIn_2) (fun r2 σ1 H locs hf hw => ?_)
  try dsimp only at hf
  refine lv_aload_n hx hb dX2_rateIn_5 rfl (lv_at hl 0 rfl) ?_
  refine lv_aload_n hx hb dX2_rateIn_6 rfl (lv_at hl 1 rfl) ?_
  refine lv_iload_n hx hb dX2_rateIn_7 rfl (lv_at hl 2 rfl) ?_
  refine x_runi hw (x_V (n := 2) (rest := [.int r2]) C hw hm0 (by decide) (eX2_wholeOf hf hm0 hm1) q596 q597 q598 q45 q599 rfl rfl (by decide +kernel) ⟨Nat.le_of_ble_eq_true rfl, Nat.le_of_ble_eq_true rfl⟩ rfl hl.1 rfl (Nat.le_of_ble_eq_true rfl) dX2_rateIn_8) (fun r4 σ3 H locs hf hw => ?_)
  try dsimp only at hf
  refine x_runi hw (x_SN (n := 2) (rest := []) C hw (eX10_thousandths hf) q600 q601 q44 q602 rfl rfl (by decide +kernel) ⟨Nat.le_of_ble_eq_true rfl, Nat.le_of_ble_eq_true rfl⟩ rfl hl.1 rfl (Nat.le_of_ble_eq_true rfl) dX2_rateIn_11) (fun r6 σ5 H locs hf hw => ?_)
  try dsimp only at hf
  exact x_iret C hret hw hf dX2_rateIn_14
-- X2_readRates
abbrev rmX2_readRates : Room := { frames := 2, cells := 0, slots := 0, locals := 44 }
def fX2_readRates_l2 (N : Nat) (a1 : Nat) (a2 : Nat) (Q : St → Prop) (Kx31 : St → Prop) : Nat → St → Int32 → Prop
  | 0, _, _ => False
  | n + 1, σ, v3 => (((sF σ 2 0 2) ≤ v3 → Kx31 σ) ∧ (¬ (sF σ 2 0 2) ≤ v3 → (((12 : Int32) ≤ v3 → Kx31 σ) ∧ (¬ (12 : Int32) ≤ v3 → fX2_rateIn N σ a1 v3 (fun (r4 : Int32) (σ3 : St) => (vp_in v3 12 ∧ ∀ σ5 : St, σ5 = setA σ3 23 a2 (v3).toNatClampNeg r4 → fX2_readRates_l2 N a1 a2 Q Kx31 n σ5 (v3 + (1 : Int32))))))))
set_option maxHeartbeats 4000000 in
set_option maxRecDepth 100000 in
theorem eX2_readRates_l2 {p : Program} {l : Launch} {e : Env} {s : State} {m : MethodId} {args : Array Value} {below : List Frame} {meth : Method} {c : Code} {E : EC} {lay : Nat → Nat → Nat} {L : List (Nat × Nat)} {A : Nat → Prop} (C : Cx p s m args c meth yX2_readRates.cls cX2_readRates 4 E A) (hret : meth.sig.returnType = none) {N : Nat} {a1 : Nat} {a2 : Nat} {Q : St → Prop} {Kx31 : St → Prop} (hm0 : (2, 0) ∈ L) (hm1 : (7, a1) ∈ L) (hm2 : (23, a2) ∈ L) (hK31 : ∀ (σ : St) (H : Heap) (locs : List Loc) (ls : Array Slot), Kx31 σ → Wo E lay L A s σ H locs → lv_has ls 4 [] → W p l e rmX2_readRates s m args below meth c H locs 0 0 (MQ below (va_Qv Q (Bd E lay L A) A) args s 0 0 A) (F0 m 31 ls [])) : ∀ (n : Nat) (σ : St) (v3 : Int32) (H : Heap) (locs : List Loc) (ls : Array Slot), fX2_readRates_l2 N a1 a2 Q Kx31 n σ v3 → Wo E lay L A s σ H locs → lv_has ls 4 [(0, .ref (lay 2 0)), (1, .ref (lay 7 a1)), (2, .ref (lay 23 a2)), (3, .int v3)] → W p l e rmX2_readRates s m args below meth c H locs 0 0 (MQ below (va_Qv Q (Bd E lay L A) A) args s 0 0 A) (F0 m 2 ls []) := by
  have hx := C.1
  have hb := C.2.1
  intro n
  induction n with
  | zero => intro σ v3 H locs ls hf; exact hf.elim
  | succ n ih =>
    intro σ v3 H locs ls hf hw hl
    rw [fX2_readRates_l2] at hf
    refine lv_iload_n hx hb dX2_readRates_2 rfl (lv_at hl 3 rfl) ?_
    refine lv_aload_n hx hb dX2_readRates_3 rfl (lv_at hl 0 rfl) ?_
    refine x_get (v := .int (sF σ 2 0 2)) (j := 2) C hw hm0 rfl (by decide) (by decide) rfl q80 dX2_readRates_4 ?_
    refine lv_icmp_ge (tgt := 31) hx hb dX2_readRates_7 (by decide) (fun c1 => ?_) (fun c1 => ?_)
    · replace hf := hf.1 c1
      exact hK31 σ _ _ _ hf hw (lv_sub hl [] rfl)
    · replace hf := hf.2 c1
      refine lv_iload_n hx hb dX2_readRates_10 rfl (lv_at hl 3 rfl) ?_
      refine lv_aload_n hx hb dX2_readRates_11 rfl (lv_at hl 2 rfl) ?_
      refine x_alen (v := 12) C hw hm2 (by decide) (by decide) (by decide) dX2_readRates_12 ?_
      refine lv_icmp_ge (tgt := 31) hx hb dX2_readRates_13 (by decide) (fun c2 => ?_) (fun c2 => ?_)
      · replace hf := hf.1 c2
        exact hK31 σ _ _ _ hf hw (lv_sub hl [] rfl)
      · replace hf := hf.2 c2
        refine lv_aload_n hx hb dX2_readRates_16 rfl (lv_at hl 2 rfl) ?_
        refine lv_iload_n hx hb dX2_readRates_17 rfl (lv_at hl 3 rfl) ?_
        refine lv_aload_n hx hb dX2_readRates_18 rfl (lv_at hl 0 rfl) ?_
        refine lv_aload_n hx hb dX2_readRates_19 rfl (lv_at hl 1 rfl) ?_
        refine lv_iload_n hx hb dX2_readRates_20 rfl (lv_at hl 3 rfl) ?_
        refine x_runi hw (x_V (n := 2) (rest := [.int v3, .ref (lay 23 a2)]) C hw hm0 (by decide) (eX2_rateIn hf hm0 hm1) q632 q592 q593 q45 q594 rfl rfl (by decide +kernel) ⟨Nat.le_of_ble_eq_true rfl, Nat.le_of_ble_eq_true rfl⟩ rfl hl.1 rfl (Nat.le_of_ble_eq_true rfl) dX2_readRates_21) (fun r4 σ3 H locs hf hw => ?_)
        try dsimp only at hf
        refine x_iast C hw hm2 (by decide) rfl hf.1 dX2_readRates_24 (fun σ5 H locs eσ5 hw => ?_)
        replace hf := hf.2 σ5 eσ5
        refine lv_iinc (v := (v3 + (1 : Int32))) (lv' := [(3, .int (v3 + (1 : Int32))), (0, .ref (lay 2 0)), (1, .ref (lay 7 a1)), (2, .ref (lay 23 a2))]) hx hb dX2_readRates_25 hl (k := 3) rfl (by rfl) (by decide) rfl (fun ls hl => ?_)
        refine lv_goto (tgt := 2) hx hb dX2_readRates_28 (by decide) ?_
        exact ih σ5 (v3 + (1 : Int32)) _ _ _ hf hw (lv_sub hl [1, 2, 3, 0] rfl)
def fX2_readRates (N : Nat) (σ : St) (a1 : Nat) (a2 : Nat) (Q : St → Prop) : Prop := fX2_readRates_l2 N a1 a2 Q (fun (σ6 : St) => Q σ6) N σ (0 : Int32)
set_option maxHeartbeats 4000000 in
set_option maxRecDepth 100000 in
theorem eX2_readRates {l : Launch} {E : EC} {lay : Nat → Nat → Nat} {L : List (Nat × Nat)} {A : Nat → Prop} {N : Nat} {σ : St} {a1 : Nat} {a2 : Nat} {Q : St → Prop} (hf : fX2_readRates N σ a1 a2 Q) (hm0 : (2, 0) ∈ L) (hm1 : (7, a1) ∈ L) (hm2 : (23, a2) ∈ L) : Met l yX2_readRates (.code yX2_readRates cX2_readRates 4 (none) :: big) rmX2_readRates (va_Pc [.ref (lay 2 0), .ref (lay 7 a1), .ref (lay 23 a2)] (Bp E lay L A σ)) (va_Qv Q (Bd E lay L A) A) 0 0 A := by
  refine x_met (by decide +kernel) (Nat.le_of_ble_eq_true rfl) ?_
  intro p e s m args below meth c ls C hret hw hl
  have hx := C.1
  have hb := C.2.1
  have hl : lv_has ls 4 [(0, .ref (lay 2 0)), (1, .ref (lay 7 a1)), (2, .ref (lay 23 a2))] := hl
  unfold fX2_readRates at hf
  refine lv_iconst (v := 0) hx hb dX2_readRates_0 (by decide) ?_
  refine lv_istore_n (lv' := [(3, .int (0 : Int32)), (0, .ref (lay 2 0)), (1, .ref (lay 7 a1)), (2, .ref (lay 23 a2))]) hx hb dX2_readRates_1 rfl hl (by decide) rfl (fun ls hl => ?_)
  refine eX2_readRates_l2 C hret hm0 hm1 hm2 ?_ N σ (0 : Int32) _ _ _ hf hw (lv_sub hl [1, 2, 3, 0] rfl)
  · intro σ6 H locs ls hf hw hl
    exact x_vret C hret hw hf dX2_readRates_31
-- X1_readWithout
abbrev rmX1_readWithout : Room := { frames := 3, cells := 0, slots := 0, locals := 67 }
def fX1_readWithout_b85_28 (N : Nat) (a1 : Int32) (Q : St → Prop) (Kh : St → Int32 → Int32 → Prop) (Kx91 : St → Int32 → Prop) (σ : St) (v4 : Int32) (v5 : Int32) : Prop := Kh σ v4 (v5 + (1 : Int32))
def fX1_readWithout_l28 (N : Nat) (a1 : Int32) (Q : St → Prop) (Kx91 : St → Int32 → Prop) : Nat → St → Int32 → Int32 → Prop
  | 0, _, _, _ => False
  | n + 1, σ, v4, v5 => (((14 : Int32) ≤ v5 → Kx91 σ v4) ∧ (¬ (14 : Int32) ≤ v5 → ((v5 = a1 → fX1_readWithout_b85_28 N a1 Q (fun (σ : St) (w4 : Int32) (w5 : Int32) => fX1_readWithout_l28 N a1 Q Kx91 n σ w4 w5) Kx91 σ v4 v5) ∧ (¬ v5 = a1 → (vp_in v5 14 ∧ (((sR σ 21 0 (v5).toNatClampNeg) = none → fX1_readWithout_b85_28 N a1 Q (fun (σ : St) (w4 : Int32) (w5 : Int32) => fX1_readWithout_l28 N a1 Q Kx91 n σ w4 w5) Kx91 σ v4 v5) ∧ (∀ i9, (sR σ 21 0 (v5).toNatClampNeg) = some i9 → (vp_in v5 14 ∧ (∃ i12, (sR σ 21 0 (v5).toNatClampNeg) = some i12 ∧ fX8_isBy N σ i12 v4 (fun (r15 : Int32) (σ14 : St) => ((¬ r15 = 0 → (vp_in v5 14 ∧ (∃ i19, (sR σ14 21 0 (v5).toNatClampNeg) = some i19 ∧ fX7_add N σ14 14 i19 (fun (σ22 : St) => (vp_in v4 6 ∧ ∀ σ24 : St, σ24 = setA σ22 33 0 (v4).toNatClampNeg (vp_nar .boolean (1 : Int32)) → fX1_readWithout_b85_28 N a1 Q (fun (σ : St) (w4 : Int32) (w5 : Int32) => fX1_readWithout_l28 N a1 Q Kx91 n σ w4 w5) Kx91 σ24 v4 v5))))) ∧ (r15 = 0 → fX1_readWithout_b85_28 N a1 Q (fun (σ : St) (w4 : Int32) (w5 : Int32) => fX1_readWithout_l28 N a1 Q Kx91 n σ w4 w5) Kx91 σ14 v4 v5))))))))))))
def fX1_readWithout_l3 (N : Nat) (a1 : Int32) (Q : St → Prop) (Kx112 : St → Prop) : Nat → St → Int32 → Prop
  | 0, _, _ => False
  | n + 1, σ, v4 => (((6 : Int32) ≤ v4 → Kx112 σ) ∧ (¬ (6 : Int32) ≤ v4 → fX7_clear N σ 14 (fun (σ3 : St) => (vp_in v4 6 ∧ ∀ σ5 : St, σ5 = setA σ3 33 0 (v4).toNatClampNeg (vp_nar .boolean (0 : Int32)) → fX1_readWithout_l28 N a1 Q (fun (σ25 : St) (u91_4 : Int32) => (vp_in u91_4 6 ∧ (∃ i29, (sR σ25 32 0 (u91_4).toNatClampNeg) = some i29 ∧ fX2_readRates N σ25 14 i29 (fun (σ31 : St) => fX1_readWithout_l3 N a1 Q Kx112 n σ31 (u91_4 + (1 : Int32)))))) N σ5 v4 (0 : Int32)))))
set_option maxHeartbeats 4000000 in
set_option maxRecDepth 100000 in
theorem eX1_readWithout_b85_28 {p : Program} {l : Launch} {e : Env} {s : State} {m : MethodId} {args : Array Value} {below : List Frame} {meth : Method} {c : Code} {E : EC} {lay : Nat → Nat → Nat} {L : List (Nat × Nat)} {A : Nat → Prop} (C : Cx p s m args c meth yX1_readWithout.cls cX1_readWithout 6 E A) (hret : meth.sig.returnType = none) {N : Nat} {a1 : Int32} {Q : St → Prop} {Kh : St → Int32 → Int32 → Prop} {Kx91 : St → Int32 → Prop} (hm0 : (1, 0) ∈ L) (hm2 : (21, 0) ∈ L) (hm3 : (2, 0) ∈ L) (hKh : ∀ (σ : St) (w4 : Int32) (w5 : Int32) (H : Heap) (locs : List Loc) (ls : Array Slot), Kh σ w4 w5 → Wo E lay L A s σ H locs → lv_has ls 6 [(0, .ref (lay 1 0)), (1, .int a1), (2, .ref (lay 21 0)), (3, .ref (lay 2 0)), (4, .int w4), (5, .int w5)] → W p l e rmX1_readWithout s m args below meth c H locs 0 0 (MQ below (va_Qv Q (Bd E lay L A) A) args s 0 0 A) (F0 m 28 ls [])) (hK91 : ∀ (σ : St) (w4 : Int32) (H : Heap) (locs : List Loc) (ls : Array Slot), Kx91 σ w4 → Wo E lay L A s σ H locs → lv_has ls 6 [(0, .ref (lay 1 0)), (1, .int a1), (2, .ref (lay 21 0)), (3, .ref (lay 2 0)), (4, .int w4)] → W p l e rmX1_readWithout s m args below meth c H locs 0 0 (MQ below (va_Qv Q (Bd E lay L A) A) args s 0 0 A) (F0 m 91 ls [])) (σ : St) (v4 : Int32) (v5 : Int32) (H : Heap) (locs : List Loc) (ls : Array Slot) (hf : fX1_readWithout_b85_28 N a1 Q Kh Kx91 σ v4 v5) (hw : Wo E lay L A s σ H locs) (hl : lv_has ls 6 [(0, .ref (lay 1 0)), (1, .int a1), (2, .ref (lay 21 0)), (3, .ref (lay 2 0)), (4, .int v4), (5, .int v5)]) : W p l e rmX1_readWithout s m args below meth c H locs 0 0 (MQ below (va_Qv Q (Bd E lay L A) A) args s 0 0 A) (F0 m 85 ls []) := by
  have hx := C.1
  have hb := C.2.1
  unfold fX1_readWithout_b85_28 at hf
  refine lv_iinc (v := (v5 + (1 : Int32))) (lv' := [(5, .int (v5 + (1 : Int32))), (0, .ref (lay 1 0)), (1, .int a1), (2, .ref (lay 21 0)), (3, .ref (lay 2 0)), (4, .int v4)]) hx hb dX1_readWithout_85 hl (k := 5) rfl (by rfl) (by decide) rfl (fun ls hl => ?_)
  refine lv_goto (tgt := 28) hx hb dX1_readWithout_88 (by decide) ?_
  exact hKh σ v4 (v5 + (1 : Int32)) _ _ _ hf hw (lv_sub hl [1, 2, 3, 4, 5, 0] rfl)
set_option maxHeartbeats 4000000 in
set_option maxRecDepth 100000 in
theorem eX1_readWithout_l28 {p : Program} {l : Launch} {e : Env} {s : State} {m : MethodId} {args : Array Value} {below : List Frame} {meth : Method} {c : Code} {E : EC} {lay : Nat → Nat → Nat} {L : List (Nat × Nat)} {A : Nat → Prop} (C : Cx p s m args c meth yX1_readWithout.cls cX1_readWithout 6 E A) (hret : meth.sig.returnType = none) {N : Nat} {a1 : Int32} {Q : St → Prop} {Kx91 : St → Int32 → Prop} (hm0 : (1, 0) ∈ L) (hm2 : (21, 0) ∈ L) (hm3 : (2, 0) ∈ L) (hK91 : ∀ (σ : St) (w4 : Int32) (H : Heap) (locs : List Loc) (ls : Array Slot), Kx91 σ w4 → Wo E lay L A s σ H locs → lv_has ls 6 [(0, .ref (lay 1 0)), (1, .int a1), (2, .ref (lay 21 0)), (3, .ref (lay 2 0)), (4, .int w4)] → W p l e rmX1_readWithout s m args below meth c H locs 0 0 (MQ below (va_Qv Q (Bd E lay L A) A) args s 0 0 A) (F0 m 91 ls [])) : ∀ (n : Nat) (σ : St) (v4 : Int32) (v5 : Int32) (H : Heap) (locs : List Loc) (ls : Array Slot), fX1_readWithout_l28 N a1 Q Kx91 n σ v4 v5 → Wo E lay L A s σ H locs → lv_has ls 6 [(0, .ref (lay 1 0)), (1, .int a1), (2, .ref (lay 21 0)), (3, .ref (lay 2 0)), (4, .int v4), (5, .int v5)] → W p l e rmX1_readWithout s m args below meth c H locs 0 0 (MQ below (va_Qv Q (Bd E lay L A) A) args s 0 0 A) (F0 m 28 ls []) := by
  have hx := C.1
  have hb := C.2.1
  intro n
  induction n with
  | zero => intro σ v4 v5 H locs ls hf; exact hf.elim
  | succ n ih =>
    intro σ v4 v5 H locs ls hf hw hl
    rw [fX1_readWithout_l28] at hf
    refine lv_iload hx hb dX1_readWithout_28 (lv_at hl 5 rfl) ?_
    refine lv_aload_n hx hb dX1_readWithout_30 rfl (lv_at hl 2 rfl) ?_
    refine x_alen (v := 14) C hw hm2 (by decide) (by decide) (by decide) dX1_readWithout_31 ?_
    refine lv_icmp_ge (tgt := 91) hx hb dX1_readWithout_32 (by decide) (fun c6 => ?_) (fun c6 => ?_)
    · replace hf := hf.1 c6
      exact hK91 σ v4 _ _ _ hf hw (lv_sub hl [0, 1, 2, 3, 4] rfl)
    · replace hf := hf.2 c6
      refine lv_iload hx hb dX1_readWithout_35 (lv_at hl 5 rfl) ?_
      refine lv_iload_n hx hb dX1_readWithout_37 rfl (lv_at hl 1 rfl) ?_
      refine lv_icmp_eq (tgt := 85) hx hb dX1_readWithout_38 (by decide) (fun c7 => ?_) (fun c7 => ?_)
      · replace hf := hf.1 c7
        exact eX1_readWithout_b85_28 C hret hm0 hm2 hm3 ih hK91 σ v4 v5 _ _ _ hf hw (lv_sub hl [0, 1, 2, 3, 4, 5] rfl)
      · replace hf := hf.2 c7
        refine lv_aload_n hx hb dX1_readWithout_41 rfl (lv_at hl 2 rfl) ?_
        refine lv_iload hx hb dX1_readWithout_42 (lv_at hl 5 rfl) ?_
        have hO_8 : ∀ i, (sR σ 21 0 (v5).toNatClampNeg) = some i → (8, i) ∈ L := fun i h => hw.2.2.2.2 21 _ _ i h
        refine x_aald (t := 5) (T := 8) C hw hm2 (by decide) rfl (by decide) rfl hf.1 rfl dX1_readWithout_44 ?_
        replace hf := hf.2
        refine x_ifnull (r := (sR σ 21 0 (v5).toNatClampNeg)) (tgt := 85) hx hb dX1_readWithout_45 (by decide) (fun eni9 => ?_) (fun i9 eni9 => ?_)
        · replace hf := hf.1 eni9
          exact eX1_readWithout_b85_28 C hret hm0 hm2 hm3 ih hK91 σ v4 v5 _ _ _ hf hw (lv_sub hl [0, 1, 2, 3, 4, 5] rfl)
        · replace hf := hf.2 i9 eni9
          have hn_10 := hO_8 i9 eni9
          try rw [eni9]
          refine lv_aload_n hx hb dX1_readWithout_48 rfl (lv_at hl 2 rfl) ?_
          refine lv_iload hx hb dX1_readWithout_49 (lv_at hl 5 rfl) ?_
          have hO_11 : ∀ i, (sR σ 21 0 (v5).toNatClampNeg) = some i → (8, i) ∈ L := fun i h => hw.2.2.2.2 21 _ _ i h
          refine x_aald (t := 5) (T := 8) C hw hm2 (by decide) rfl (by decide) rfl hf.1 rfl dX1_readWithout_51 ?_
          replace hf := hf.2
          refine lv_iload hx hb dX1_readWithout_52 (lv_at hl 4 rfl) ?_
          obtain ⟨i12, eni12, hf⟩ := hf
          have hn_13 := hO_11 i12 eni12
          rw [show rf lay 8 (sR σ 21 0 (v5).toNatClampNeg) = .ref (lay 8 i12) from by rw [eni12]; rfl]
          refine x_runi hw (x_V (n := 1) (rest := []) C hw hn_13 (by decide) (eX8_isBy hf hn_13) q615 q616 q617 q55 q618 rfl rfl (by decide +kernel) ⟨Nat.le_of_ble_eq_true rfl, Nat.le_of_ble_eq_true rfl⟩ rfl hl.1 rfl (Nat.le_of_ble_eq_true rfl) dX1_readWithout_54) (fun r15 σ14 H locs hf hw => ?_)
          have hzr15 := hf.2
          replace hf := hf.1
          try dsimp only at hf
          refine lv_if_ne (tgt := 63) hx hb dX1_readWithout_57 (by decide) (fun c16 => ?_) (fun c16 => ?_)
          · replace hf := hf.1 c16
            refine lv_aload_n hx hb dX1_readWithout_63 rfl (lv_at hl 0 rfl) ?_
            have hm_17 : (7, 14) ∈ L := hw.2.2.2.1 1 0 hm0 2 (by decide) (by decide) rfl
            refine x_get (v := .ref (lay 7 14)) (j := 2) C hw hm0 rfl (by decide) (by decide) rfl q123 dX1_readWithout_64 ?_
            refine lv_aload_n hx hb dX1_readWithout_67 rfl (lv_at hl 2 rfl) ?_
            refine lv_iload hx hb dX1_readWithout_68 (lv_at hl 5 rfl) ?_
            have hO_18 : ∀ i, (sR σ14 21 0 (v5).toNatClampNeg) = some i → (8, i) ∈ L := fun i h => hw.2.2.2.2 21 _ _ i h
            refine x_aald (t := 5) (T := 8) C hw hm2 (by decide) rfl (by decide) rfl hf.1 rfl dX1_readWithout_70 ?_
            replace hf := hf.2
            obtain ⟨i19, eni19, hf⟩ := hf
            have hn_20 := hO_18 i19 eni19
            rw [show rf lay 8 (sR σ14 21 0 (v5).toNatClampNeg) = .ref (lay 8 i19) from by rw [eni19]; rfl]
            have hm_21 : (7, i19) ∈ L := hw.2.2.2.1 8 i19 hn_20 4 (by decide) (by decide) rfl
            refine x_getN (v := .ref (lay 7 i19)) (j := 4) (host := "WhoseHand") C hw hn_20 rfl (by decide) (by decide) rfl q414 dX1_readWithout_71 ?_
            refine x_runv hw (x_V (n := 1) (rest := []) C hw hm_17 (by decide) (eX7_add hf hm_17 hm_21) q624 q625 q626 q47 q627 rfl rfl (by decide +kernel) ⟨Nat.le_of_ble_eq_true rfl, Nat.le_of_ble_eq_true rfl⟩ rfl hl.1 rfl (Nat.le_of_ble_eq_true rfl) dX1_readWithout_74) (fun σ22 H locs hf hw => ?_)
            try dsimp only at hf
            refine lv_aload_n hx hb dX1_readWithout_77 rfl (lv_at hl 0 rfl) ?_
            have hm_23 : (33, 0) ∈ L := hw.2.2.2.1 1 0 hm0 1 (by decide) (by decide) rfl
            refine x_get (v := .ref (lay 33 0)) (j := 1) C hw hm0 rfl (by decide) (by decide) rfl q122 dX1_readWithout_78 ?_
            refine lv_iload hx hb dX1_readWithout_81 (lv_at hl 4 rfl) ?_
            refine lv_iconst (v := 1) hx hb dX1_readWithout_83 (by decide) ?_
            refine x_zast C hw hm_23 (by decide) rfl hf.1 dX1_readWithout_84 (fun σ24 H locs eσ24 hw => ?_)
            replace hf := hf.2 σ24 eσ24
            exact eX1_readWithout_b85_28 C hret hm0 hm2 hm3 ih hK91 σ24 v4 v5 _ _ _ hf hw (lv_sub hl [0, 1, 2, 3, 4, 5] rfl)
          · replace hf := hf.2 c16
            refine lv_goto (tgt := 85) hx hb dX1_readWithout_60 (by decide) ?_
            exact eX1_readWithout_b85_28 C hret hm0 hm2 hm3 ih hK91 σ14 v4 v5 _ _ _ hf hw (lv_sub hl [0, 1, 2, 3, 4, 5] rfl)
set_option maxHeartbeats 4000000 in
set_option maxRecDepth 100000 in
theorem eX1_readWithout_l3 {p : Program} {l : Launch} {e : Env} {s : State} {m : MethodId} {args : Array Value} {below : List Frame} {meth : Method} {c : Code} {E : EC} {lay : Nat → Nat → Nat} {L : List (Nat × Nat)} {A : Nat → Prop} (C : Cx p s m args c meth yX1_readWithout.cls cX1_readWithout 6 E A) (hret : meth.sig.returnType = none) {N : Nat} {a1 : Int32} {Q : St → Prop} {Kx112 : St → Prop} (hm0 : (1, 0) ∈ L) (hm2 : (21, 0) ∈ L) (hm3 : (2, 0) ∈ L) (hK112 : ∀ (σ : St) (H : Heap) (locs : List Loc) (ls : Array Slot), Kx112 σ → Wo E lay L A s σ H locs → lv_has ls 6 [] → W p l e rmX1_readWithout s m args below meth c H locs 0 0 (MQ below (va_Qv Q (Bd E lay L A) A) args s 0 0 A) (F0 m 112 ls [])) : ∀ (n : Nat) (σ : St) (v4 : Int32) (H : Heap) (locs : List Loc) (ls : Array Slot), fX1_readWithout_l3 N a1 Q Kx112 n σ v4 → Wo E lay L A s σ H locs → lv_has ls 6 [(0, .ref (lay 1 0)), (1, .int a1), (2, .ref (lay 21 0)), (3, .ref (lay 2 0)), (4, .int v4)] → W p l e rmX1_readWithout s m args below meth c H locs 0 0 (MQ below (va_Qv Q (Bd E lay L A) A) args s 0 0 A) (F0 m 3 ls []) := by
  have hx := C.1
  have hb := C.2.1
  intro n
  induction n with
  | zero => intro σ v4 H locs ls hf; exact hf.elim
  | succ n ih =>
    intro σ v4 H locs ls hf hw hl
    rw [fX1_readWithout_l3] at hf
    refine lv_iload hx hb dX1_readWithout_3 (lv_at hl 4 rfl) ?_
    refine lv_bipush (v := 6) hx hb dX1_readWithout_5 (by decide) ?_
    refine lv_icmp_ge (tgt := 112) hx hb dX1_readWithout_7 (by decide) (fun c1 => ?_) (fun c1 => ?_)
    · replace hf := hf.1 c1
      exact hK112 σ _ _ _ hf hw (lv_sub hl [] rfl)
    · replace hf := hf.2 c1
      refine lv_aload_n hx hb dX1_readWithout_10 rfl (lv_at hl 0 rfl) ?_
      have hm_2 : (7, 14) ∈ L := hw.2.2.2.1 1 0 hm0 2 (by decide) (by decide) rfl
      refine x_get (v := .ref (lay 7 14)) (j := 2) C hw hm0 rfl (by decide) (by decide) rfl q123 dX1_readWithout_11 ?_
      refine x_runv hw (x_V (n := 0) (rest := []) C hw hm_2 (by decide) (eX7_clear hf hm_2) q611 q612 q613 q47 q614 rfl rfl (by decide +kernel) ⟨Nat.le_of_ble_eq_true rfl, Nat.le_of_ble_eq_true rfl⟩ rfl hl.1 rfl (Nat.le_of_ble_eq_true rfl) dX1_readWithout_14) (fun σ3 H locs hf hw => ?_)
      try dsimp only at hf
      refine lv_aload_n hx hb dX1_readWithout_17 rfl (lv_at hl 0 rfl) ?_
      have hm_4 : (33, 0) ∈ L := hw.2.2.2.1 1 0 hm0 1 (by decide) (by decide) rfl
      refine x_get (v := .ref (lay 33 0)) (j := 1) C hw hm0 rfl (by decide) (by decide) rfl q122 dX1_readWithout_18 ?_
      refine lv_iload hx hb dX1_readWithout_21 (lv_at hl 4 rfl) ?_
      refine lv_iconst (v := 0) hx hb dX1_readWithout_23 (by decide) ?_
      refine x_zast C hw hm_4 (by decide) rfl hf.1 dX1_readWithout_24 (fun σ5 H locs eσ5 hw => ?_)
      replace hf := hf.2 σ5 eσ5
      refine lv_iconst (v := 0) hx hb dX1_readWithout_25 (by decide) ?_
      refine lv_istore (lv' := [(5, .int (0 : Int32)), (0, .ref (lay 1 0)), (1, .int a1), (2, .ref (lay 21 0)), (3, .ref (lay 2 0)), (4, .int v4)]) hx hb dX1_readWithout_26 hl (by decide) rfl (fun ls hl => ?_)
      refine eX1_readWithout_l28 C hret hm0 hm2 hm3 ?_ N σ5 v4 (0 : Int32) _ _ _ hf hw (lv_sub hl [1, 2, 3, 4, 5, 0] rfl)
      · intro σ25 u91_4 H locs ls hf hw hl
        refine lv_aload_n hx hb dX1_readWithout_91 rfl (lv_at hl 3 rfl) ?_
        refine lv_aload_n hx hb dX1_readWithout_92 rfl (lv_at hl 0 rfl) ?_
        have hm_26 : (7, 14) ∈ L := hw.2.2.2.1 1 0 hm0 2 (by decide) (by decide) rfl
        refine x_get (v := .ref (lay 7 14)) (j := 2) C hw hm0 rfl (by decide) (by decide) rfl q123 dX1_readWithout_93 ?_
        refine lv_aload_n hx hb dX1_readWithout_96 rfl (lv_at hl 0 rfl) ?_
        have hm_27 : (32, 0) ∈ L := hw.2.2.2.1 1 0 hm0 0 (by decide) (by decide) rfl
        refine x_get (v := .ref (lay 32 0)) (j := 0) C hw hm0 rfl (by decide) (by decide) rfl q121 dX1_readWithout_97 ?_
        refine lv_iload hx hb dX1_readWithout_100 (lv_at hl 4 rfl) ?_
        have hO_28 : ∀ i, (sR σ25 32 0 (u91_4).toNatClampNeg) = some i → (23, i) ∈ L := fun i h => hw.2.2.2.2 32 _ _ i h
        refine x_aaldA (T := 23) C hw hm_27 (by decide) rfl hf.1 rfl dX1_readWithout_102 ?_
        replace hf := hf.2
        obtain ⟨i29, eni29, hf⟩ := hf
        have hn_30 := hO_28 i29 eni29
        rw [show rf lay 23 (sR σ25 32 0 (u91_4).toNatClampNeg) = .ref (lay 23 i29) from by rw [eni29]; rfl]
        refine x_runv hw (x_V (n := 2) (rest := []) C hw hm3 (by decide) (eX2_readRates hf hm3 hm_26 hn_30) q628 q629 q630 q45 q631 rfl rfl (by decide +kernel) ⟨Nat.le_of_ble_eq_true rfl, Nat.le_of_ble_eq_true rfl⟩ rfl hl.1 rfl (Nat.le_of_ble_eq_true rfl) dX1_readWithout_103) (fun σ31 H locs hf hw => ?_)
        try dsimp only at hf
        refine lv_iinc (v := (u91_4 + (1 : Int32))) (lv' := [(4, .int (u91_4 + (1 : Int32))), (0, .ref (lay 1 0)), (1, .int a1), (2, .ref (lay 21 0)), (3, .ref (lay 2 0))]) hx hb dX1_readWithout_106 hl (k := 4) rfl (by rfl) (by decide) rfl (fun ls hl => ?_)
        refine lv_goto (tgt := 3) hx hb dX1_readWithout_109 (by decide) ?_
        exact ih σ31 (u91_4 + (1 : Int32)) _ _ _ hf hw (lv_sub hl [1, 2, 3, 4, 0] rfl)
def fX1_readWithout (N : Nat) (σ : St) (a1 : Int32) (Q : St → Prop) : Prop := fX1_readWithout_l3 N a1 Q (fun (σ32 : St) => Q σ32) N σ (0 : Int32)
set_option maxHeartbeats 4000000 in
set_option maxRecDepth 100000 in
theorem eX1_readWithout {l : Launch} {E : EC} {lay : Nat → Nat → Nat} {L : List (Nat × Nat)} {A : Nat → Prop} {N : Nat} {σ : St} {a1 : Int32} {Q : St → Prop} (hf : fX1_readWithout N σ a1 Q) (hm0 : (1, 0) ∈ L) (hm2 : (21, 0) ∈ L) (hm3 : (2, 0) ∈ L) : Met l yX1_readWithout (.code yX1_readWithout cX1_readWithout 6 (none) :: big) rmX1_readWithout (va_Pc [.ref (lay 1 0), .int a1, .ref (lay 21 0), .ref (lay 2 0)] (Bp E lay L A σ)) (va_Qv Q (Bd E lay L A) A) 0 0 A := by
  refine x_met (by decide +kernel) (Nat.le_of_ble_eq_true rfl) ?_
  intro p e s m args below meth c ls C hret hw hl
  have hx := C.1
  have hb := C.2.1
  have hl : lv_has ls 6 [(0, .ref (lay 1 0)), (1, .int a1), (2, .ref (lay 21 0)), (3, .ref (lay 2 0))] := hl
  unfold fX1_readWithout at hf
  refine lv_iconst (v := 0) hx hb dX1_readWithout_0 (by decide) ?_
  refine lv_istore (lv' := [(4, .int (0 : Int32)), (0, .ref (lay 1 0)), (1, .int a1), (2, .ref (lay 21 0)), (3, .ref (lay 2 0))]) hx hb dX1_readWithout_1 hl (by decide) rfl (fun ls hl => ?_)
  refine eX1_readWithout_l3 C hret hm0 hm2 hm3 ?_ N σ (0 : Int32) _ _ _ hf hw (lv_sub hl [1, 2, 3, 4, 0] rfl)
  · intro σ32 H locs ls hf hw hl
    exact x_vret C hret hw hf dX1_readWithout_112
-- X1_has
abbrev rmX1_has : Room := { frames := 0, cells := 0, slots := 0, locals := 0 }
def fX1_has (N : Nat) (σ : St) (a1 : Int32) (Q : Int32 → St → Prop) : Prop := ((a1 < 0 → Q (0 : Int32) σ) ∧ (¬ a1 < 0 → (((6 : Int32) ≤ a1 → Q (0 : Int32) σ) ∧ (¬ (6 : Int32) ≤ a1 → (vp_in a1 6 ∧ (((sA σ 33 0 (a1).toNatClampNeg) = 0 → Q (0 : Int32) σ) ∧ (¬ (sA σ 33 0 (a1).toNatClampNeg) = 0 → Q (1 : Int32) σ)))))))
set_option maxHeartbeats 4000000 in
set_option maxRecDepth 100000 in
theorem eX1_has {l : Launch} {E : EC} {lay : Nat → Nat → Nat} {L : List (Nat × Nat)} {A : Nat → Prop} {N : Nat} {σ : St} {a1 : Int32} {Q : Int32 → St → Prop} (hf : fX1_has N σ a1 Q) (hm0 : (1, 0) ∈ L) : Met l yX1_has (.code yX1_has cX1_has 2 (some .boolean) :: big) rmX1_has (va_Pc [.ref (lay 1 0), .int a1] (Bp E lay L A σ)) (va_Qi (fun r u => Q r u ∧ narrow .boolean (.int r) = .int r) (Bd E lay L A) A) 0 0 A := by
  refine x_met (by decide +kernel) (Nat.le_of_ble_eq_true rfl) ?_
  intro p e s m args below meth c ls C hret hw hl
  have hx := C.1
  have hb := C.2.1
  have hl : lv_has ls 2 [(0, .ref (lay 1 0)), (1, .int a1)] := hl
  unfold fX1_has at hf
  refine lv_iload_n hx hb dX1_has_0 rfl (lv_at hl 1 rfl) ?_
  refine lv_if_lt (tgt := 26) hx hb dX1_has_1 (by decide) (fun c1 => ?_) (fun c1 => ?_)
  · replace hf := hf.1 c1
    refine lv_iconst (v := 0) hx hb dX1_has_26 (by decide) ?_
    exact x_zret C hret (by decide) hw ⟨hf, by decide⟩ dX1_has_27
  · replace hf := hf.2 c1
    refine lv_iload_n hx hb dX1_has_4 rfl (lv_at hl 1 rfl) ?_
    refine lv_aload_n hx hb dX1_has_5 rfl (lv_at hl 0 rfl) ?_
    have hm_2 : (33, 0) ∈ L := hw.2.2.2.1 1 0 hm0 1 (by decide) (by decide) rfl
    refine x_get (v := .ref (lay 33 0)) (j := 1) C hw hm0 rfl (by decide) (by decide) rfl q122 dX1_has_6 ?_
    refine x_alen (v := 6) C hw hm_2 (by decide) (by decide) (by decide) dX1_has_9 ?_
    refine lv_icmp_ge (tgt := 26) hx hb dX1_has_10 (by decide) (fun c3 => ?_) (fun c3 => ?_)
    · replace hf := hf.1 c3
      refine lv_iconst (v := 0) hx hb dX1_has_26 (by decide) ?_
      exact x_zret C hret (by decide) hw ⟨hf, by decide⟩ dX1_has_27
    · replace hf := hf.2 c3
      refine lv_aload_n hx hb dX1_has_13 rfl (lv_at hl 0 rfl) ?_
      have hm_4 : (33, 0) ∈ L := hw.2.2.2.1 1 0 hm0 1 (by decide) (by decide) rfl
      refine x_get (v := .ref (lay 33 0)) (j := 1) C hw hm0 rfl (by decide) (by decide) rfl q122 dX1_has_14 ?_
      refine lv_iload_n hx hb dX1_has_17 rfl (lv_at hl 1 rfl) ?_
      refine x_zald C hw hm_4 (by decide) rfl hf.1 dX1_has_18 ?_
      replace hf := hf.2
      refine lv_if_eq (tgt := 26) hx hb dX1_has_19 (by decide) (fun c5 => ?_) (fun c5 => ?_)
      · replace hf := hf.1 c5
        refine lv_iconst (v := 0) hx hb dX1_has_26 (by decide) ?_
        exact x_zret C hret (by decide) hw ⟨hf, by decide⟩ dX1_has_27
      · replace hf := hf.2 c5
        refine lv_iconst (v := 1) hx hb dX1_has_22 (by decide) ?_
        refine lv_goto (tgt := 27) hx hb dX1_has_23 (by decide) ?_
        exact x_zret C hret (by decide) hw ⟨hf, by decide⟩ dX1_has_27
-- X1_rateOf
abbrev rmX1_rateOf : Room := { frames := 1, cells := 0, slots := 0, locals := 21 }
def fX1_rateOf (N : Nat) (σ : St) (a1 : Int32) (a2 : Int32) (Q : Int32 → St → Prop) : Prop := fX1_has N σ a1 (fun (r2 : Int32) (σ1 : St) => ((r2 = 0 → Q (0 : Int32) σ1) ∧ (¬ r2 = 0 → ((a2 < 0 → Q (0 : Int32) σ1) ∧ (¬ a2 < 0 → (((12 : Int32) ≤ a2 → Q (0 : Int32) σ1) ∧ (¬ (12 : Int32) ≤ a2 → (vp_in a1 6 ∧ (∃ i8, (sR σ1 32 0 (a1).toNatClampNeg) = some i8 ∧ (vp_in a2 12 ∧ Q (sA σ1 23 i8 (a2).toNatClampNeg) σ1))))))))))
set_option maxHeartbeats 4000000 in
set_option maxRecDepth 100000 in
theorem eX1_rateOf {l : Launch} {E : EC} {lay : Nat → Nat → Nat} {L : List (Nat × Nat)} {A : Nat → Prop} {N : Nat} {σ : St} {a1 : Int32} {a2 : Int32} {Q : Int32 → St → Prop} (hf : fX1_rateOf N σ a1 a2 Q) (hm0 : (1, 0) ∈ L) : Met l yX1_rateOf (.code yX1_rateOf cX1_rateOf 3 (some .int) :: big) rmX1_rateOf (va_Pc [.ref (lay 1 0), .int a1, .int a2] (Bp E lay L A σ)) (va_Qi Q (Bd E lay L A) A) 0 0 A := by
  refine x_met (by decide +kernel) (Nat.le_of_ble_eq_true rfl) ?_
  intro p e s m args below meth c ls C hret hw hl
  have hx := C.1
  have hb := C.2.1
  have hl : lv_has ls 3 [(0, .ref (lay 1 0)), (1, .int a1), (2, .int a2)] := hl
  unfold fX1_rateOf at hf
  refine lv_aload_n hx hb dX1_rateOf_0 rfl (lv_at hl 0 rfl) ?_
  refine lv_iload_n hx hb dX1_rateOf_1 rfl (lv_at hl 1 rfl) ?_
  refine x_runi hw (x_V (n := 1) (rest := []) C hw hm0 (by decide) (eX1_has hf hm0) q641 q634 q635 q46 q636 rfl rfl (by decide +kernel) ⟨Nat.le_of_ble_eq_true rfl, Nat.le_of_ble_eq_true rfl⟩ rfl hl.1 rfl (Nat.le_of_ble_eq_true rfl) dX1_rateOf_2) (fun r2 σ1 H locs hf hw => ?_)
  have hzr2 := hf.2
  replace hf := hf.1
  try dsimp only at hf
  refine lv_if_eq (tgt := 29) hx hb dX1_rateOf_5 (by decide) (fun c3 => ?_) (fun c3 => ?_)
  · replace hf := hf.1 c3
    refine lv_iconst (v := 0) hx hb dX1_rateOf_29 (by decide) ?_
    exact x_iret C hret hw hf dX1_rateOf_30
  · replace hf := hf.2 c3
    refine lv_iload_n hx hb dX1_rateOf_8 rfl (lv_at hl 2 rfl) ?_
    refine lv_if_lt (tgt := 29) hx hb dX1_rateOf_9 (by decide) (fun c4 => ?_) (fun c4 => ?_)
    · replace hf := hf.1 c4
      refine lv_iconst (v := 0) hx hb dX1_rateOf_29 (by decide) ?_
      exact x_iret C hret hw hf dX1_rateOf_30
    · replace hf := hf.2 c4
      refine lv_iload_n hx hb dX1_rateOf_12 rfl (lv_at hl 2 rfl) ?_
      refine lv_bipush (v := 12) hx hb dX1_rateOf_13 (by decide) ?_
      refine lv_icmp_ge (tgt := 29) hx hb dX1_rateOf_15 (by decide) (fun c5 => ?_) (fun c5 => ?_)
      · replace hf := hf.1 c5
        refine lv_iconst (v := 0) hx hb dX1_rateOf_29 (by decide) ?_
        exact x_iret C hret hw hf dX1_rateOf_30
      · replace hf := hf.2 c5
        refine lv_aload_n hx hb dX1_rateOf_18 rfl (lv_at hl 0 rfl) ?_
        have hm_6 : (32, 0) ∈ L := hw.2.2.2.1 1 0 hm0 0 (by decide) (by decide) rfl
        refine x_get (v := .ref (lay 32 0)) (j := 0) C hw hm0 rfl (by decide) (by decide) rfl q121 dX1_rateOf_19 ?_
        refine lv_iload_n hx hb dX1_rateOf_22 rfl (lv_at hl 1 rfl) ?_
        have hO_7 : ∀ i, (sR σ1 32 0 (a1).toNatClampNeg) = some i → (23, i) ∈ L := fun i h => hw.2.2.2.2 32 _ _ i h
        refine x_aaldA (T := 23) C hw hm_6 (by decide) rfl hf.1 rfl dX1_rateOf_23 ?_
        replace hf := hf.2
        refine lv_iload_n hx hb dX1_rateOf_24 rfl (lv_at hl 2 rfl) ?_
        obtain ⟨i8, eni8, hf⟩ := hf
        have hn_9 := hO_7 i8 eni8
        rw [show rf lay 23 (sR σ1 32 0 (a1).toNatClampNeg) = .ref (lay 23 i8) from by rw [eni8]; rfl]
        refine x_iald C hw hn_9 (by decide) rfl hf.1 dX1_rateOf_25 ?_
        replace hf := hf.2
        refine lv_goto (tgt := 30) hx hb dX1_rateOf_26 (by decide) ?_
        exact x_iret C hret hw hf dX1_rateOf_30
-- X2_farness
abbrev rmX2_farness : Room := { frames := 1, cells := 0, slots := 0, locals := 20 }
def fX2_farness_b77_6 (N : Nat) (a1 : Nat) (a2 : Nat) (a3 : Int32) (Q : Int32 → St → Prop) (Kh : St → Int32 → Int32 → Prop) (Kx83 : St → Int32 → Prop) (σ : St) (v4 : Int32) (v5 : Int32) : Prop := Kh σ v4 (v5 + (1 : Int32))
def fX2_farness_b74_6 (N : Nat) (a1 : Nat) (a2 : Nat) (a3 : Int32) (Q : Int32 → St → Prop) (Kh : St → Int32 → Int32 → Prop) (Kx83 : St → Int32 → Prop) (σ : St) (v5 : Int32) (t0 : Int32) (t1 : Int32) : Prop := fX2_farness_b77_6 N a1 a2 a3 Q Kh Kx83 σ (t1 + t0) v5
def fX2_farness_l6 (N : Nat) (a1 : Nat) (a2 : Nat) (a3 : Int32) (Q : Int32 → St → Prop) (Kx83 : St → Int32 → Prop) : Nat → St → Int32 → Int32 → Prop
  | 0, _, _, _ => False
  | n + 1, σ, v4, v5 => (((sF σ 2 0 2) ≤ v5 → Kx83 σ v4) ∧ (¬ (sF σ 2 0 2) ≤ v5 → (((12 : Int32) ≤ v5 → Kx83 σ v4) ∧ (¬ (12 : Int32) ≤ v5 → (((12 : Int32) ≤ v5 → Kx83 σ v4) ∧ (¬ (12 : Int32) ≤ v5 → ((¬ ((((a3).toUInt32 >>> ((v5).toUInt32 &&& Int32.toUInt32 31)).toInt32) &&& (1 : Int32)) = 0 → (vp_in v5 12 ∧ (vp_in v5 12 ∧ ∀ x5 : Int32, x5 = (if 0 ≤ ((sA σ 23 a1 (v5).toNatClampNeg) - (sA σ 23 a2 (v5).toNatClampNeg)) then ((sA σ 23 a1 (v5).toNatClampNeg) - (sA σ 23 a2 (v5).toNatClampNeg)) else 0 - ((sA σ 23 a1 (v5).toNatClampNeg) - (sA σ 23 a2 (v5).toNatClampNeg))) → ((¬ (sF σ 2 0 3) = 0 → fX2_farness_b74_6 N a1 a2 a3 Q (fun (σ : St) (w4 : Int32) (w5 : Int32) => fX2_farness_l6 N a1 a2 a3 Q Kx83 n σ w4 w5) Kx83 σ v5 (x5 * x5) v4) ∧ ((sF σ 2 0 3) = 0 → fX2_farness_b74_6 N a1 a2 a3 Q (fun (σ : St) (w4 : Int32) (w5 : Int32) => fX2_farness_l6 N a1 a2 a3 Q Kx83 n σ w4 w5) Kx83 σ v5 x5 v4))))) ∧ (((((a3).toUInt32 >>> ((v5).toUInt32 &&& Int32.toUInt32 31)).toInt32) &&& (1 : Int32)) = 0 → fX2_farness_b77_6 N a1 a2 a3 Q (fun (σ : St) (w4 : Int32) (w5 : Int32) => fX2_farness_l6 N a1 a2 a3 Q Kx83 n σ w4 w5) Kx83 σ v4 v5))))))))
set_option maxHeartbeats 4000000 in
set_option maxRecDepth 100000 in
theorem eX2_farness_b77_6 {p : Program} {l : Launch} {e : Env} {s : State} {m : MethodId} {args : Array Value} {below : List Frame} {meth : Method} {c : Code} {E : EC} {lay : Nat → Nat → Nat} {L : List (Nat × Nat)} {A : Nat → Prop} (C : Cx p s m args c meth yX2_farness.cls cX2_farness 7 E A) (hret : meth.sig.returnType = some .int) {N : Nat} {a1 : Nat} {a2 : Nat} {a3 : Int32} {Q : Int32 → St → Prop} {Kh : St → Int32 → Int32 → Prop} {Kx83 : St → Int32 → Prop} (hm0 : (2, 0) ∈ L) (hm1 : (23, a1) ∈ L) (hm2 : (23, a2) ∈ L) (hKh : ∀ (σ : St) (w4 : Int32) (w5 : Int32) (H : Heap) (locs : List Loc) (ls : Array Slot), Kh σ w4 w5 → Wo E lay L A s σ H locs → lv_has ls 7 [(0, .ref (lay 2 0)), (1, .ref (lay 23 a1)), (2, .ref (lay 23 a2)), (3, .int a3), (4, .int w4), (5, .int w5)] → W p l e rmX2_farness s m args below meth c H locs 0 0 (MQ below (va_Qi Q (Bd E lay L A) A) args s 0 0 A) (F0 m 6 ls [])) (hK83 : ∀ (σ : St) (w4 : Int32) (H : Heap) (locs : List Loc) (ls : Array Slot), Kx83 σ w4 → Wo E lay L A s σ H locs → lv_has ls 7 [(4, .int w4)] → W p l e rmX2_farness s m args below meth c H locs 0 0 (MQ below (va_Qi Q (Bd E lay L A) A) args s 0 0 A) (F0 m 83 ls [])) (σ : St) (v4 : Int32) (v5 : Int32) (H : Heap) (locs : List Loc) (ls : Array Slot) (hf : fX2_farness_b77_6 N a1 a2 a3 Q Kh Kx83 σ v4 v5) (hw : Wo E lay L A s σ H locs) (hl : lv_has ls 7 [(0, .ref (lay 2 0)), (1, .ref (lay 23 a1)), (2, .ref (lay 23 a2)), (3, .int a3), (4, .int v4), (5, .int v5)]) : W p l e rmX2_farness s m args below meth c H locs 0 0 (MQ below (va_Qi Q (Bd E lay L A) A) args s 0 0 A) (F0 m 77 ls []) := by
  have hx := C.1
  have hb := C.2.1
  unfold fX2_farness_b77_6 at hf
  refine lv_iinc (v := (v5 + (1 : Int32))) (lv' := [(5, .int (v5 + (1 : Int32))), (0, .ref (lay 2 0)), (1, .ref (lay 23 a1)), (2, .ref (lay 23 a2)), (3, .int a3), (4, .int v4)]) hx hb dX2_farness_77 hl (k := 5) rfl (by rfl) (by decide) rfl (fun ls hl => ?_)
  refine lv_goto (tgt := 6) hx hb dX2_farness_80 (by decide) ?_
  exact hKh σ v4 (v5 + (1 : Int32)) _ _ _ hf hw (lv_sub hl [1, 2, 3, 4, 5, 0] rfl)
set_option maxHeartbeats 4000000 in
set_option maxRecDepth 100000 in
theorem eX2_farness_b74_6 {p : Program} {l : Launch} {e : Env} {s : State} {m : MethodId} {args : Array Value} {below : List Frame} {meth : Method} {c : Code} {E : EC} {lay : Nat → Nat → Nat} {L : List (Nat × Nat)} {A : Nat → Prop} (C : Cx p s m args c meth yX2_farness.cls cX2_farness 7 E A) (hret : meth.sig.returnType = some .int) {N : Nat} {a1 : Nat} {a2 : Nat} {a3 : Int32} {Q : Int32 → St → Prop} {Kh : St → Int32 → Int32 → Prop} {Kx83 : St → Int32 → Prop} (hm0 : (2, 0) ∈ L) (hm1 : (23, a1) ∈ L) (hm2 : (23, a2) ∈ L) (hKh : ∀ (σ : St) (w4 : Int32) (w5 : Int32) (H : Heap) (locs : List Loc) (ls : Array Slot), Kh σ w4 w5 → Wo E lay L A s σ H locs → lv_has ls 7 [(0, .ref (lay 2 0)), (1, .ref (lay 23 a1)), (2, .ref (lay 23 a2)), (3, .int a3), (4, .int w4), (5, .int w5)] → W p l e rmX2_farness s m args below meth c H locs 0 0 (MQ below (va_Qi Q (Bd E lay L A) A) args s 0 0 A) (F0 m 6 ls [])) (hK83 : ∀ (σ : St) (w4 : Int32) (H : Heap) (locs : List Loc) (ls : Array Slot), Kx83 σ w4 → Wo E lay L A s σ H locs → lv_has ls 7 [(4, .int w4)] → W p l e rmX2_farness s m args below meth c H locs 0 0 (MQ below (va_Qi Q (Bd E lay L A) A) args s 0 0 A) (F0 m 83 ls [])) (σ : St) (v5 : Int32) (t0 : Int32) (t1 : Int32) (H : Heap) (locs : List Loc) (ls : Array Slot) (hf : fX2_farness_b74_6 N a1 a2 a3 Q Kh Kx83 σ v5 t0 t1) (hw : Wo E lay L A s σ H locs) (hl : lv_has ls 7 [(0, .ref (lay 2 0)), (1, .ref (lay 23 a1)), (2, .ref (lay 23 a2)), (3, .int a3), (5, .int v5)]) : W p l e rmX2_farness s m args below meth c H locs 0 0 (MQ below (va_Qi Q (Bd E lay L A) A) args s 0 0 A) (F0 m 74 ls [.int t0, .int t1]) := by
  have hx := C.1
  have hb := C.2.1
  unfold fX2_farness_b74_6 at hf
  refine lv_iadd hx hb dX2_farness_74 ?_
  refine lv_istore (lv' := [(4, .int (t1 + t0)), (0, .ref (lay 2 0)), (1, .ref (lay 23 a1)), (2, .ref (lay 23 a2)), (3, .int a3), (5, .int v5)]) hx hb dX2_farness_75 hl (by decide) rfl (fun ls hl => ?_)
  exact eX2_farness_b77_6 C hret hm0 hm1 hm2 hKh hK83 σ (t1 + t0) v5 _ _ _ hf hw (lv_sub hl [1, 2, 3, 4, 0, 5] rfl)
set_option maxHeartbeats 4000000 in
set_option maxRecDepth 100000 in
theorem eX2_farness_l6 {p : Program} {l : Launch} {e : Env} {s : State} {m : MethodId} {args : Array Value} {below : List Frame} {meth : Method} {c : Code} {E : EC} {lay : Nat → Nat → Nat} {L : List (Nat × Nat)} {A : Nat → Prop} (C : Cx p s m args c meth yX2_farness.cls cX2_farness 7 E A) (hret : meth.sig.returnType = some .int) {N : Nat} {a1 : Nat} {a2 : Nat} {a3 : Int32} {Q : Int32 → St → Prop} {Kx83 : St → Int32 → Prop} (hm0 : (2, 0) ∈ L) (hm1 : (23, a1) ∈ L) (hm2 : (23, a2) ∈ L) (hK83 : ∀ (σ : St) (w4 : Int32) (H : Heap) (locs : List Loc) (ls : Array Slot), Kx83 σ w4 → Wo E lay L A s σ H locs → lv_has ls 7 [(4, .int w4)] → W p l e rmX2_farness s m args below meth c H locs 0 0 (MQ below (va_Qi Q (Bd E lay L A) A) args s 0 0 A) (F0 m 83 ls [])) : ∀ (n : Nat) (σ : St) (v4 : Int32) (v5 : Int32) (H : Heap) (locs : List Loc) (ls : Array Slot), fX2_farness_l6 N a1 a2 a3 Q Kx83 n σ v4 v5 → Wo E lay L A s σ H locs → lv_has ls 7 [(0, .ref (lay 2 0)), (1, .ref (lay 23 a1)), (2, .ref (lay 23 a2)), (3, .int a3), (4, .int v4), (5, .int v5)] → W p l e rmX2_farness s m args below meth c H locs 0 0 (MQ below (va_Qi Q (Bd E lay L A) A) args s 0 0 A) (F0 m 6 ls []) := by
  have hx := C.1
  have hb := C.2.1
  intro n
  induction n with
  | zero => intro σ v4 v5 H locs ls hf; exact hf.elim
  | succ n ih =>
    intro σ v4 v5 H locs ls hf hw hl
    rw [fX2_farness_l6] at hf
    refine lv_iload hx hb dX2_farness_6 (lv_at hl 5 rfl) ?_
    refine lv_aload_n hx hb dX2_farness_8 rfl (lv_at hl 0 rfl) ?_
    refine x_get (v := .int (sF σ 2 0 2)) (j := 2) C hw hm0 rfl (by decide) (by decide) rfl q80 dX2_farness_9 ?_
    refine lv_icmp_ge (tgt := 83) hx hb dX2_farness_12 (by decide) (fun c1 => ?_) (fun c1 => ?_)
    · replace hf := hf.1 c1
      exact hK83 σ v4 _ _ _ hf hw (lv_sub hl [4] rfl)
    · replace hf := hf.2 c1
      refine lv_iload hx hb dX2_farness_15 (lv_at hl 5 rfl) ?_
      refine lv_aload_n hx hb dX2_farness_17 rfl (lv_at hl 1 rfl) ?_
      refine x_alen (v := 12) C hw hm1 (by decide) (by decide) (by decide) dX2_farness_18 ?_
      refine lv_icmp_ge (tgt := 83) hx hb dX2_farness_19 (by decide) (fun c2 => ?_) (fun c2 => ?_)
      · replace hf := hf.1 c2
        exact hK83 σ v4 _ _ _ hf hw (lv_sub hl [4] rfl)
      · replace hf := hf.2 c2
        refine lv_iload hx hb dX2_farness_22 (lv_at hl 5 rfl) ?_
        refine lv_aload_n hx hb dX2_farness_24 rfl (lv_at hl 2 rfl) ?_
        refine x_alen (v := 12) C hw hm2 (by decide) (by decide) (by decide) dX2_farness_25 ?_
        refine lv_icmp_ge (tgt := 83) hx hb dX2_farness_26 (by decide) (fun c3 => ?_) (fun c3 => ?_)
        · replace hf := hf.1 c3
          exact hK83 σ v4 _ _ _ hf hw (lv_sub hl [4] rfl)
        · replace hf := hf.2 c3
          refine lv_iload_n hx hb dX2_farness_29 rfl (lv_at hl 3 rfl) ?_
          refine lv_iload hx hb dX2_farness_30 (lv_at hl 5 rfl) ?_
          refine lv_iushr hx hb dX2_farness_32 rfl ?_
          refine lv_iconst (v := 1) hx hb dX2_farness_33 (by decide) ?_
          refine lv_iand hx hb dX2_farness_34 ?_
          refine lv_if_ne (tgt := 41) hx hb dX2_farness_35 (by decide) (fun c4 => ?_) (fun c4 => ?_)
          · replace hf := hf.1 c4
            refine lv_aload_n hx hb dX2_farness_41 rfl (lv_at hl 1 rfl) ?_
            refine lv_iload hx hb dX2_farness_42 (lv_at hl 5 rfl) ?_
            refine x_iald C hw hm1 (by decide) rfl hf.1 dX2_farness_44 ?_
            replace hf := hf.2
            refine lv_aload_n hx hb dX2_farness_45 rfl (lv_at hl 2 rfl) ?_
            refine lv_iload hx hb dX2_farness_46 (lv_at hl 5 rfl) ?_
            refine x_iald C hw hm2 (by decide) rfl hf.1 dX2_farness_48 ?_
            replace hf := hf.2
            refine lv_isub hx hb dX2_farness_49 ?_
            refine va_mabs hx hb (C.2.2.1.trans hl.1.symm) C.2.2.2.1 (C.2.2.2.2.1 _ q659) (C.2.2.2.2.1 _ q660) (C.2.2.2.2.1 _ q56) (C.2.2.2.2.1 _ q661) (Nat.le_of_ble_eq_true rfl) (Nat.le_of_ble_eq_true rfl) (Nat.zero_le _) (Nat.zero_le _) dX2_farness_50 ?_
            refine lv_topi (fun x5 ex5 => ?_)
            replace hf := hf x5 ex5
            refine lv_istore (lv' := [(6, .int x5), (0, .ref (lay 2 0)), (1, .ref (lay 23 a1)), (2, .ref (lay 23 a2)), (3, .int a3), (4, .int v4), (5, .int v5)]) hx hb dX2_farness_53 hl (by decide) rfl (fun ls hl => ?_)
            refine lv_iload hx hb dX2_farness_55 (lv_at hl 5 rfl) ?_
            refine lv_aload_n hx hb dX2_farness_57 rfl (lv_at hl 1 rfl) ?_
            refine x_get (v := .int (sF σ 2 0 3)) (j := 3) C hw hm0 rfl (by decide) (by decide) rfl q82 dX2_farness_58 ?_
            refine lv_if_ne (tgt := 69) hx hb dX2_farness_61 (by decide) (fun c6 => ?_) (fun c6 => ?_)
            · replace hf := hf.1 c6
              refine lv_iload hx hb dX2_farness_69 (lv_at hl 0 rfl) ?_
              refine lv_iload hx hb dX2_farness_71 (lv_at hl 0 rfl) ?_
              refine lv_imul hx hb dX2_farness_73 ?_
              exact eX2_farness_b74_6 C hret hm0 hm1 hm2 ih hK83 σ v5 (x5 * x5) v4 _ _ _ hf hw (lv_sub hl [1, 2, 3, 4, 6] rfl)
            · replace hf := hf.2 c6
              refine lv_iload hx hb dX2_farness_64 (lv_at hl 0 rfl) ?_
              refine lv_goto (tgt := 74) hx hb dX2_farness_66 (by decide) ?_
              exact eX2_farness_b74_6 C hret hm0 hm1 hm2 ih hK83 σ v5 x5 v4 _ _ _ hf hw (lv_sub hl [1, 2, 3, 4, 6] rfl)
          · replace hf := hf.2 c4
            refine lv_goto (tgt := 77) hx hb dX2_farness_38 (by decide) ?_
            exact eX2_farness_b77_6 C hret hm0 hm1 hm2 ih hK83 σ v4 v5 _ _ _ hf hw (lv_sub hl [0, 1, 2, 3, 4, 5] rfl)
def fX2_farness (N : Nat) (σ : St) (a1 : Nat) (a2 : Nat) (a3 : Int32) (Q : Int32 → St → Prop) : Prop := fX2_farness_l6 N a1 a2 a3 Q (fun (σ7 : St) (u83_4 : Int32) => Q u83_4 σ7) N σ (0 : Int32) (0 : Int32)
set_option maxHeartbeats 4000000 in
set_option maxRecDepth 100000 in
theorem eX2_farness {l : Launch} {E : EC} {lay : Nat → Nat → Nat} {L : List (Nat × Nat)} {A : Nat → Prop} {N : Nat} {σ : St} {a1 : Nat} {a2 : Nat} {a3 : Int32} {Q : Int32 → St → Prop} (hf : fX2_farness N σ a1 a2 a3 Q) (hm0 : (2, 0) ∈ L) (hm1 : (23, a1) ∈ L) (hm2 : (23, a2) ∈ L) : Met l yX2_farness (.code yX2_farness cX2_farness 7 (some .int) :: big) rmX2_farness (va_Pc [.ref (lay 2 0), .ref (lay 23 a1), .ref (lay 23 a2), .int a3] (Bp E lay L A σ)) (va_Qi Q (Bd E lay L A) A) 0 0 A := by
  refine x_met (by decide +kernel) (Nat.le_of_ble_eq_true rfl) ?_
  intro p e s m args below meth c ls C hret hw hl
  have hx := C.1
  have hb := C.2.1
  have hl : lv_has ls 7 [(0, .ref (lay 2 0)), (1, .ref (lay 23 a1)), (2, .ref (lay 23 a2)), (3, .int a3)] := hl
  unfold fX2_farness at hf
  refine lv_iconst (v := 0) hx hb dX2_farness_0 (by decide) ?_
  refine lv_istore (lv' := [(4, .int (0 : Int32)), (0, .ref (lay 2 0)), (1, .ref (lay 23 a1)), (2, .ref (lay 23 a2)), (3, .int a3)]) hx hb dX2_farness_1 hl (by decide) rfl (fun ls hl => ?_)
  refine lv_iconst (v := 0) hx hb dX2_farness_3 (by decide) ?_
  refine lv_istore (lv' := [(5, .int (0 : Int32)), (4, .int (0 : Int32)), (0, .ref (lay 2 0)), (1, .ref (lay 23 a1)), (2, .ref (lay 23 a2)), (3, .int a3)]) hx hb dX2_farness_4 hl (by decide) rfl (fun ls hl => ?_)
  refine eX2_farness_l6 C hret hm0 hm1 hm2 ?_ N σ (0 : Int32) (0 : Int32) _ _ _ hf hw (lv_sub hl [2, 3, 4, 5, 1, 0] rfl)
  · intro σ7 u83_4 H locs ls hf hw hl
    refine lv_iload hx hb dX2_farness_83 (lv_at hl 0 rfl) ?_
    exact x_iret C hret hw hf dX2_farness_85
-- X1_farnessOf
abbrev rmX1_farnessOf : Room := { frames := 2, cells := 0, slots := 0, locals := 46 }
def fX1_farnessOf (N : Nat) (σ : St) (a1 : Int32) (a2 : Nat) (a4 : Int32) (Q : Int32 → St → Prop) : Prop := fX1_has N σ a1 (fun (r2 : Int32) (σ1 : St) => ((r2 = 0 → Q (0 : Int32) σ1) ∧ (¬ r2 = 0 → (vp_in a1 6 ∧ (∃ i6, (sR σ1 32 0 (a1).toNatClampNeg) = some i6 ∧ fX2_farness N σ1 a2 i6 a4 (fun (r9 : Int32) (σ8 : St) => Q r9 σ8))))))
set_option maxHeartbeats 4000000 in
set_option maxRecDepth 100000 in
theorem eX1_farnessOf {l : Launch} {E : EC} {lay : Nat → Nat → Nat} {L : List (Nat × Nat)} {A : Nat → Prop} {N : Nat} {σ : St} {a1 : Int32} {a2 : Nat} {a4 : Int32} {Q : Int32 → St → Prop} (hf : fX1_farnessOf N σ a1 a2 a4 Q) (hm0 : (1, 0) ∈ L) (hm2 : (23, a2) ∈ L) (hm3 : (2, 0) ∈ L) : Met l yX1_farnessOf (.code yX1_farnessOf cX1_farnessOf 5 (some .int) :: big) rmX1_farnessOf (va_Pc [.ref (lay 1 0), .int a1, .ref (lay 23 a2), .ref (lay 2 0), .int a4] (Bp E lay L A σ)) (va_Qi Q (Bd E lay L A) A) 0 0 A := by
  refine x_met (by decide +kernel) (Nat.le_of_ble_eq_true rfl) ?_
  intro p e s m args below meth c ls C hret hw hl
  have hx := C.1
  have hb := C.2.1
  have hl : lv_has ls 5 [(0, .ref (lay 1 0)), (1, .int a1), (2, .ref (lay 23 a2)), (3, .ref (lay 2 0)), (4, .int a4)] := hl
  unfold fX1_farnessOf at hf
  refine lv_aload_n hx hb dX1_farnessOf_0 rfl (lv_at hl 0 rfl) ?_
  refine lv_iload_n hx hb dX1_farnessOf_1 rfl (lv_at hl 1 rfl) ?_
  refine x_runi hw (x_V (n := 1) (rest := []) C hw hm0 (by decide) (eX1_has hf hm0) q641 q634 q635 q46 q636 rfl rfl (by decide +kernel) ⟨Nat.le_of_ble_eq_true rfl, Nat.le_of_ble_eq_true rfl⟩ rfl hl.1 rfl (Nat.le_of_ble_eq_true rfl) dX1_farnessOf_2) (fun r2 σ1 H locs hf hw => ?_)
  have hzr2 := hf.2
  replace hf := hf.1
  try dsimp only at hf
  refine lv_if_eq (tgt := 24) hx hb dX1_farnessOf_5 (by decide) (fun c3 => ?_) (fun c3 => ?_)
  · replace hf := hf.1 c3
    refine lv_iconst (v := 0) hx hb dX1_farnessOf_24 (by decide) ?_
    exact x_iret C hret hw hf dX1_farnessOf_25
  · replace hf := hf.2 c3
    refine lv_aload_n hx hb dX1_farnessOf_8 rfl (lv_at hl 3 rfl) ?_
    refine lv_aload_n hx hb dX1_farnessOf_9 rfl (lv_at hl 2 rfl) ?_
    refine lv_aload_n hx hb dX1_farnessOf_10 rfl (lv_at hl 0 rfl) ?_
    have hm_4 : (32, 0) ∈ L := hw.2.2.2.1 1 0 hm0 0 (by decide) (by decide) rfl
    refine x_get (v := .ref (lay 32 0)) (j := 0) C hw hm0 rfl (by decide) (by decide) rfl q121 dX1_farnessOf_11 ?_
    refine lv_iload_n hx hb dX1_farnessOf_14 rfl (lv_at hl 1 rfl) ?_
    have hO_5 : ∀ i, (sR σ1 32 0 (a1).toNatClampNeg) = some i → (23, i) ∈ L := fun i h => hw.2.2.2.2 32 _ _ i h
    refine x_aaldA (T := 23) C hw hm_4 (by decide) rfl hf.1 rfl dX1_farnessOf_15 ?_
    replace hf := hf.2
    refine lv_iload hx hb dX1_farnessOf_16 (lv_at hl 4 rfl) ?_
    obtain ⟨i6, eni6, hf⟩ := hf
    have hn_7 := hO_5 i6 eni6
    rw [show rf lay 23 (sR σ1 32 0 (a1).toNatClampNeg) = .ref (lay 23 i6) from by rw [eni6]; rfl]
    refine x_runi hw (x_V (n := 3) (rest := []) C hw hm3 (by decide) (eX2_farness hf hm3 hm2 hn_7) q674 q656 q657 q45 q658 rfl rfl (by decide +kernel) ⟨Nat.le_of_ble_eq_true rfl, Nat.le_of_ble_eq_true rfl⟩ rfl hl.1 rfl (Nat.le_of_ble_eq_true rfl) dX1_farnessOf_18) (fun r9 σ8 H locs hf hw => ?_)
    try dsimp only at hf
    refine lv_goto (tgt := 25) hx hb dX1_farnessOf_21 (by decide) ?_
    exact x_iret C hret hw hf dX1_farnessOf_25
