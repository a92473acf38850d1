-- X6_takeOn
abbrev rmX6_takeOn : Room := { frames := 0, cells := 0, slots := 0, locals := 0 }
def fX6_takeOn_l5 (N : Nat) (a1 : Int32) (a2 : Int32) (Q : St → Prop) (Kx92 : St → Prop) : Nat → St → Int32 → Int32 → Prop
  | 0, _, _, _ => False
  | n + 1, σ, v3, v4 => (((sF σ 6 0 6) ≤ v4 → Kx92 σ) ∧ (¬ (sF σ 6 0 6) ≤ v4 → (((14 : Int32) ≤ v4 → Kx92 σ) ∧ (¬ (14 : Int32) ≤ v4 → (((sF σ 6 0 5) ≤ v3 → Kx92 σ) ∧ (¬ (sF σ 6 0 5) ≤ v3 → (vp_in v4 14 ∧ ∀ σ5 : St, σ5 = setA σ 47 0 (v4).toNatClampNeg v3 → (vp_in v4 15 ∧ (vp_in v3 14 ∧ (vp_in (v4 + (1 : Int32)) 15 ∧ ∀ σ9 : St, σ9 = setA σ5 48 0 ((v4 + (1 : Int32))).toNatClampNeg ((sA σ5 48 0 (v4).toNatClampNeg) + (sA σ5 45 0 (v3).toNatClampNeg)) → (vp_in v4 15 ∧ (vp_in v3 14 ∧ (vp_in (v4 + (1 : Int32)) 15 ∧ ∀ σ13 : St, σ13 = setA σ9 49 0 ((v4 + (1 : Int32))).toNatClampNeg ((sA σ9 49 0 (v4).toNatClampNeg) + (sA σ9 46 0 (v3).toNatClampNeg)) → fX6_takeOn_l5 N a1 a2 Q Kx92 n σ13 (v3 + (1 : Int32)) (v4 + (1 : Int32)))))))))))))))
set_option maxHeartbeats 4000000 in
set_option maxRecDepth 100000 in
theorem eX6_takeOn_l5 {p : Program} {l : Launch} {e : Env} {s : State} {m : MethodId} {args : Array Value} {below : List Frame} {meth : Method} {c : Code} {E : EC} {lay : Nat → Nat → Nat} {L : List (Nat × Nat)} {A : Nat → Prop} (C : Cx p s m args c meth yX6_takeOn.cls cX6_takeOn 5 E A) (hret : meth.sig.returnType = none) {N : Nat} {a1 : Int32} {a2 : Int32} {Q : St → Prop} {Kx92 : St → Prop} (hm0 : (6, 0) ∈ L) (hK92 : ∀ (σ : St) (H : Heap) (locs : List Loc) (ls : Array Slot), Kx92 σ → Wo E lay L A s σ H locs → lv_has ls 5 [] → W p l e rmX6_takeOn s m args below meth c H locs 0 0 (MQ below (va_Qv Q (Bd E lay L A) A) args s 0 0 A) (F0 m 92 ls [])) : ∀ (n : Nat) (σ : St) (v3 : Int32) (v4 : Int32) (H : Heap) (locs : List Loc) (ls : Array Slot), fX6_takeOn_l5 N a1 a2 Q Kx92 n σ v3 v4 → Wo E lay L A s σ H locs → lv_has ls 5 [(0, .ref (lay 6 0)), (3, .int v3), (4, .int v4)] → W p l e rmX6_takeOn s m args below meth c H locs 0 0 (MQ below (va_Qv Q (Bd E lay L A) A) args s 0 0 A) (F0 m 5 ls []) := by
  have hx := C.1
  have hb := C.2.1
  intro n
  induction n with
  | zero => intro σ v3 v4 H locs ls hf; exact hf.elim
  | succ n ih =>
    intro σ v3 v4 H locs ls hf hw hl
    rw [fX6_takeOn_l5] at hf
    refine lv_iload hx hb dX6_takeOn_5 (lv_at hl 2 rfl) ?_
    refine lv_aload_n hx hb dX6_takeOn_7 rfl (lv_at hl 0 rfl) ?_
    refine x_get (v := .int (sF σ 6 0 6)) (j := 6) C hw hm0 rfl (by decide) (by decide) rfl q209 dX6_takeOn_8 ?_
    refine lv_icmp_ge (tgt := 92) hx hb dX6_takeOn_11 (by decide) (fun c1 => ?_) (fun c1 => ?_)
    · replace hf := hf.1 c1
      exact hK92 σ _ _ _ hf hw (lv_sub hl [] rfl)
    · replace hf := hf.2 c1
      refine lv_iload hx hb dX6_takeOn_14 (lv_at hl 2 rfl) ?_
      refine lv_bipush (v := 14) hx hb dX6_takeOn_16 (by decide) ?_
      refine lv_icmp_ge (tgt := 92) hx hb dX6_takeOn_18 (by decide) (fun c2 => ?_) (fun c2 => ?_)
      · replace hf := hf.1 c2
        exact hK92 σ _ _ _ hf hw (lv_sub hl [] rfl)
      · replace hf := hf.2 c2
        refine lv_iload_n hx hb dX6_takeOn_21 rfl (lv_at hl 1 rfl) ?_
        refine lv_aload_n hx hb dX6_takeOn_22 rfl (lv_at hl 0 rfl) ?_
        refine x_get (v := .int (sF σ 6 0 5)) (j := 5) C hw hm0 rfl (by decide) (by decide) rfl q208 dX6_takeOn_23 ?_
        refine lv_icmp_ge (tgt := 92) hx hb dX6_takeOn_26 (by decide) (fun c3 => ?_) (fun c3 => ?_)
        · replace hf := hf.1 c3
          exact hK92 σ _ _ _ hf hw (lv_sub hl [] rfl)
        · replace hf := hf.2 c3
          refine lv_aload_n hx hb dX6_takeOn_29 rfl (lv_at hl 0 rfl) ?_
          have hm_4 : (47, 0) ∈ L := hw.2.2.2.1 6 0 hm0 2 (by decide) (by decide) rfl
          refine x_get (v := .ref (lay 47 0)) (j := 2) C hw hm0 rfl (by decide) (by decide) rfl q205 dX6_takeOn_30 ?_
          refine lv_iload hx hb dX6_takeOn_33 (lv_at hl 2 rfl) ?_
          refine lv_iload_n hx hb dX6_takeOn_35 rfl (lv_at hl 1 rfl) ?_
          refine x_iast C hw hm_4 (by decide) rfl hf.1 dX6_takeOn_36 (fun σ5 H locs eσ5 hw => ?_)
          replace hf := hf.2 σ5 eσ5
          refine lv_aload_n hx hb dX6_takeOn_37 rfl (lv_at hl 0 rfl) ?_
          have hm_6 : (48, 0) ∈ L := hw.2.2.2.1 6 0 hm0 3 (by decide) (by decide) rfl
          refine x_get (v := .ref (lay 48 0)) (j := 3) C hw hm0 rfl (by decide) (by decide) rfl q206 dX6_takeOn_38 ?_
          refine lv_iload hx hb dX6_takeOn_41 (lv_at hl 2 rfl) ?_
          refine lv_iconst (v := 1) hx hb dX6_takeOn_43 (by decide) ?_
          refine lv_iadd hx hb dX6_takeOn_44 ?_
          refine lv_aload_n hx hb dX6_takeOn_45 rfl (lv_at hl 0 rfl) ?_
          have hm_7 : (48, 0) ∈ L := hw.2.2.2.1 6 0 hm0 3 (by decide) (by decide) rfl
          refine x_get (v := .ref (lay 48 0)) (j := 3) C hw hm0 rfl (by decide) (by decide) rfl q206 dX6_takeOn_46 ?_
          refine lv_iload hx hb dX6_takeOn_49 (lv_at hl 2 rfl) ?_
          refine x_iald C hw hm_7 (by decide) rfl hf.1 dX6_takeOn_51 ?_
          replace hf := hf.2
          refine lv_aload_n hx hb dX6_takeOn_52 rfl (lv_at hl 0 rfl) ?_
          have hm_8 : (45, 0) ∈ L := hw.2.2.2.1 6 0 hm0 0 (by decide) (by decide) rfl
          refine x_get (v := .ref (lay 45 0)) (j := 0) C hw hm0 rfl (by decide) (by decide) rfl q203 dX6_takeOn_53 ?_
          refine lv_iload_n hx hb dX6_takeOn_56 rfl (lv_at hl 1 rfl) ?_
          refine x_iald C hw hm_8 (by decide) rfl hf.1 dX6_takeOn_57 ?_
          replace hf := hf.2
          refine lv_iadd hx hb dX6_takeOn_58 ?_
          refine x_iast C hw hm_6 (by decide) rfl hf.1 dX6_takeOn_59 (fun σ9 H locs eσ9 hw => ?_)
          replace hf := hf.2 σ9 eσ9
          refine lv_aload_n hx hb dX6_takeOn_60 rfl (lv_at hl 0 rfl) ?_
          have hm_10 : (49, 0) ∈ L := hw.2.2.2.1 6 0 hm0 4 (by decide) (by decide) rfl
          refine x_get (v := .ref (lay 49 0)) (j := 4) C hw hm0 rfl (by decide) (by decide) rfl q207 dX6_takeOn_61 ?_
          refine lv_iload hx hb dX6_takeOn_64 (lv_at hl 2 rfl) ?_
          refine lv_iconst (v := 1) hx hb dX6_takeOn_66 (by decide) ?_
          refine lv_iadd hx hb dX6_takeOn_67 ?_
          refine lv_aload_n hx hb dX6_takeOn_68 rfl (lv_at hl 0 rfl) ?_
          have hm_11 : (49, 0) ∈ L := hw.2.2.2.1 6 0 hm0 4 (by decide) (by decide) rfl
          refine x_get (v := .ref (lay 49 0)) (j := 4) C hw hm0 rfl (by decide) (by decide) rfl q207 dX6_takeOn_69 ?_
          refine lv_iload hx hb dX6_takeOn_72 (lv_at hl 2 rfl) ?_
          refine x_iald C hw hm_11 (by decide) rfl hf.1 dX6_takeOn_74 ?_
          replace hf := hf.2
          refine lv_aload_n hx hb dX6_takeOn_75 rfl (lv_at hl 0 rfl) ?_
          have hm_12 : (46, 0) ∈ L := hw.2.2.2.1 6 0 hm0 1 (by decide) (by decide) rfl
          refine x_get (v := .ref (lay 46 0)) (j := 1) C hw hm0 rfl (by decide) (by decide) rfl q204 dX6_takeOn_76 ?_
          refine lv_iload_n hx hb dX6_takeOn_79 rfl (lv_at hl 1 rfl) ?_
          refine x_iald C hw hm_12 (by decide) rfl hf.1 dX6_takeOn_80 ?_
          replace hf := hf.2
          refine lv_iadd hx hb dX6_takeOn_81 ?_
          refine x_iast C hw hm_10 (by decide) rfl hf.1 dX6_takeOn_82 (fun σ13 H locs eσ13 hw => ?_)
          replace hf := hf.2 σ13 eσ13
          refine lv_iinc (v := (v3 + (1 : Int32))) (lv' := [(3, .int (v3 + (1 : Int32))), (0, .ref (lay 6 0)), (4, .int v4)]) hx hb dX6_takeOn_83 hl (k := 1) rfl (by rfl) (by decide) rfl (fun ls hl => ?_)
          refine lv_iinc (v := (v4 + (1 : Int32))) (lv' := [(4, .int (v4 + (1 : Int32))), (3, .int (v3 + (1 : Int32))), (0, .ref (lay 6 0))]) hx hb dX6_takeOn_86 hl (k := 2) rfl (by rfl) (by decide) rfl (fun ls hl => ?_)
          refine lv_goto (tgt := 5) hx hb dX6_takeOn_89 (by decide) ?_
          exact ih σ13 (v3 + (1 : Int32)) (v4 + (1 : Int32)) _ _ _ hf hw (lv_sub hl [2, 1, 0] rfl)
def fX6_takeOn (N : Nat) (σ : St) (a1 : Int32) (a2 : Int32) (Q : St → Prop) : Prop := fX6_takeOn_l5 N a1 a2 Q (fun (σ14 : St) => Q σ14) N σ a2 a1
set_option maxHeartbeats 4000000 in
set_option maxRecDepth 100000 in
theorem eX6_takeOn {l : Launch} {E : EC} {lay : Nat → Nat → Nat} {L : List (Nat × Nat)} {A : Nat → Prop} {N : Nat} {σ : St} {a1 : Int32} {a2 : Int32} {Q : St → Prop} (hf : fX6_takeOn N σ a1 a2 Q) (hm0 : (6, 0) ∈ L) : Met l yX6_takeOn (.code yX6_takeOn cX6_takeOn 5 (none) :: big) rmX6_takeOn (va_Pc [.ref (lay 6 0), .int a1, .int a2] (Bp E lay L A σ)) (va_Qv Q (Bd E lay L A) A) 0 0 A := by
  refine x_met (by decide +kernel) (Nat.le_of_ble_eq_true rfl) ?_
  intro p e s m args below meth c ls C hret hw hl
  have hx := C.1
  have hb := C.2.1
  have hl : lv_has ls 5 [(0, .ref (lay 6 0)), (1, .int a1), (2, .int a2)] := hl
  unfold fX6_takeOn at hf
  refine lv_iload_n hx hb dX6_takeOn_0 rfl (lv_at hl 2 rfl) ?_
  refine lv_istore_n (lv' := [(3, .int a2), (0, .ref (lay 6 0)), (1, .int a1), (2, .int a2)]) hx hb dX6_takeOn_1 rfl hl (by decide) rfl (fun ls hl => ?_)
  refine lv_iload_n hx hb dX6_takeOn_2 rfl (lv_at hl 2 rfl) ?_
  refine lv_istore (lv' := [(4, .int a1), (3, .int a2), (0, .ref (lay 6 0)), (1, .int a1), (2, .int a2)]) hx hb dX6_takeOn_3 hl (by decide) rfl (fun ls hl => ?_)
  refine eX6_takeOn_l5 C hret hm0 ?_ N σ a2 a1 _ _ _ hf hw (lv_sub hl [2, 1, 0] rfl)
  · intro σ14 H locs ls hf hw hl
    exact x_vret C hret hw hf dX6_takeOn_92
-- X6_difference
abbrev rmX6_difference : Room := { frames := 1, cells := 0, slots := 0, locals := 21 }
def fX6_difference (N : Nat) (σ : St) (Q : Int32 → St → Prop) : Prop := (vp_in (sF σ 6 0 6) 15 ∧ (vp_in (sF σ 6 0 6) 15 ∧ fX10_thousandths N σ (sA σ 48 0 ((sF σ 6 0 6)).toNatClampNeg) (sA σ 49 0 ((sF σ 6 0 6)).toNatClampNeg) (fun (r4 : Int32) (σ3 : St) => fX10_thousandths N σ3 ((sF σ3 6 0 7) - (sA σ 48 0 ((sF σ 6 0 6)).toNatClampNeg)) ((sF σ3 6 0 8) - (sA σ 49 0 ((sF σ 6 0 6)).toNatClampNeg)) (fun (r6 : Int32) (σ5 : St) => Q (if 0 ≤ (r4 - r6) then (r4 - r6) else 0 - (r4 - r6)) σ5))))
set_option maxHeartbeats 4000000 in
set_option maxRecDepth 100000 in
theorem eX6_difference {l : Launch} {E : EC} {lay : Nat → Nat → Nat} {L : List (Nat × Nat)} {A : Nat → Prop} {N : Nat} {σ : St} {Q : Int32 → St → Prop} (hf : fX6_difference N σ Q) (hm0 : (6, 0) ∈ L) : Met l yX6_difference (.code yX6_difference cX6_difference 3 (some .int) :: big) rmX6_difference (va_Pc [.ref (lay 6 0)] (Bp E lay L A σ)) (va_Qi Q (Bd E lay L A) A) 0 0 A := by
  refine x_met (by decide +kernel) (Nat.le_of_ble_eq_true rfl) ?_
  intro p e s m args below meth c ls C hret hw hl
  have hx := C.1
  have hb := C.2.1
  have hl : lv_has ls 3 [(0, .ref (lay 6 0))] := hl
  unfold fX6_difference at hf
  refine lv_aload_n hx hb dX6_difference_0 rfl (lv_at hl 0 rfl) ?_
  have hm_1 : (48, 0) ∈ L := hw.2.2.2.1 6 0 hm0 3 (by decide) (by decide) rfl
  refine x_get (v := .ref (lay 48 0)) (j := 3) C hw hm0 rfl (by decide) (by decide) rfl q206 dX6_difference_1 ?_
  refine lv_aload_n hx hb dX6_difference_4 rfl (lv_at hl 0 rfl) ?_
  refine x_get (v := .int (sF σ 6 0 6)) (j := 6) C hw hm0 rfl (by decide) (by decide) rfl q209 dX6_difference_5 ?_
  refine x_iald C hw hm_1 (by decide) rfl hf.1 dX6_difference_8 ?_
  replace hf := hf.2
  refine lv_istore_n (lv' := [(1, .int (sA σ 48 0 ((sF σ 6 0 6)).toNatClampNeg)), (0, .ref (lay 6 0))]) hx hb dX6_difference_9 rfl hl (by decide) rfl (fun ls hl => ?_)
  refine lv_aload_n hx hb dX6_difference_10 rfl (lv_at hl 1 rfl) ?_
  have hm_2 : (49, 0) ∈ L := hw.2.2.2.1 6 0 hm0 4 (by decide) (by decide) rfl
  refine x_get (v := .ref (lay 49 0)) (j := 4) C hw hm0 rfl (by decide) (by decide) rfl q207 dX6_difference_11 ?_
  refine lv_aload_n hx hb dX6_difference_14 rfl (lv_at hl 1 rfl) ?_
  refine x_get (v := .int (sF σ 6 0 6)) (j := 6) C hw hm0 rfl (by decide) (by decide) rfl q209 dX6_difference_15 ?_
  refine x_iald C hw hm_2 (by decide) rfl hf.1 dX6_difference_18 ?_
  replace hf := hf.2
  refine lv_istore_n (lv' := [(2, .int (sA σ 49 0 ((sF σ 6 0 6)).toNatClampNeg)), (1, .int (sA σ 48 0 ((sF σ 6 0 6)).toNatClampNeg)), (0, .ref (lay 6 0))]) hx hb dX6_difference_19 rfl hl (by decide) rfl (fun ls hl => ?_)
  refine lv_iload_n hx hb dX6_difference_20 rfl (lv_at hl 1 rfl) ?_
  refine lv_iload_n hx hb dX6_difference_21 rfl (lv_at hl 0 rfl) ?_
  refine x_runi hw (x_SN (n := 2) (rest := []) C hw (eX10_thousandths hf) q829 q601 q44 q602 rfl rfl (by decide +kernel) ⟨Nat.le_of_ble_eq_true rfl, Nat.le_of_ble_eq_true rfl⟩ rfl hl.1 rfl (Nat.le_of_ble_eq_true rfl) dX6_difference_22) (fun r4 σ3 H locs hf hw => ?_)
  try dsimp only at hf
  refine lv_aload_n hx hb dX6_difference_25 rfl (lv_at hl 2 rfl) ?_
  refine x_get (v := .int (sF σ3 6 0 7)) (j := 7) C hw hm0 rfl (by decide) (by decide) rfl q210 dX6_difference_26 ?_
  refine lv_iload_n hx hb dX6_difference_29 rfl (lv_at hl 1 rfl) ?_
  refine lv_isub hx hb dX6_difference_30 ?_
  refine lv_aload_n hx hb dX6_difference_31 rfl (lv_at hl 2 rfl) ?_
  refine x_get (v := .int (sF σ3 6 0 8)) (j := 8) C hw hm0 rfl (by decide) (by decide) rfl q211 dX6_difference_32 ?_
  refine lv_iload_n hx hb dX6_difference_35 rfl (lv_at hl 0 rfl) ?_
  refine lv_isub hx hb dX6_difference_36 ?_
  refine x_runi hw (x_SN (n := 2) (rest := [.int r4]) C hw (eX10_thousandths hf) q829 q601 q44 q602 rfl rfl (by decide +kernel) ⟨Nat.le_of_ble_eq_true rfl, Nat.le_of_ble_eq_true rfl⟩ rfl hl.1 rfl (Nat.le_of_ble_eq_true rfl) dX6_difference_37) (fun r6 σ5 H locs hf hw => ?_)
  try dsimp only at hf
  refine lv_isub hx hb dX6_difference_40 ?_
  refine va_mabs hx hb (C.2.2.1.trans hl.1.symm) C.2.2.2.1 (C.2.2.2.2.1 _ q830) (C.2.2.2.2.1 _ q660) (C.2.2.2.2.1 _ q56) (C.2.2.2.2.1 _ q661) (Nat.le_of_ble_eq_true rfl) (Nat.le_of_ble_eq_true rfl) (Nat.zero_le _) (Nat.zero_le _) dX6_difference_41 ?_
  exact x_iret C hret hw hf dX6_difference_44
-- X6_takeNext
abbrev rmX6_takeNext : Room := { frames := 1, cells := 0, slots := 0, locals := 24 }
def fX6_takeNext_l7 (N : Nat) (Q : Int32 → St → Prop) (Kx31 : St → Int32 → Prop) (Kx52 : St → Prop) : Nat → St → Int32 → Prop
  | 0, _, _ => False
  | n + 1, σ, v1 => ((v1 < 0 → Kx52 σ) ∧ (¬ v1 < 0 → (vp_in v1 14 ∧ (((((sF σ 6 0 5) - (sF σ 6 0 6)) + v1) ≤ (sA σ 47 0 (v1).toNatClampNeg) → fX6_takeNext_l7 N Q Kx31 Kx52 n σ (v1 + (-1 : Int32))) ∧ (¬ (((sF σ 6 0 5) - (sF σ 6 0 6)) + v1) ≤ (sA σ 47 0 (v1).toNatClampNeg) → Kx31 σ v1)))))
set_option maxHeartbeats 4000000 in
set_option maxRecDepth 100000 in
theorem eX6_takeNext_l7 {p : Program} {l : Launch} {e : Env} {s : State} {m : MethodId} {args : Array Value} {below : List Frame} {meth : Method} {c : Code} {E : EC} {lay : Nat → Nat → Nat} {L : List (Nat × Nat)} {A : Nat → Prop} (C : Cx p s m args c meth yX6_takeNext.cls cX6_takeNext 2 E A) (hret : meth.sig.returnType = some .boolean) {N : Nat} {Q : Int32 → St → Prop} {Kx31 : St → Int32 → Prop} {Kx52 : St → Prop} (hm0 : (6, 0) ∈ L) (hK31 : ∀ (σ : St) (w1 : Int32) (H : Heap) (locs : List Loc) (ls : Array Slot), Kx31 σ w1 → Wo E lay L A s σ H locs → lv_has ls 2 [(0, .ref (lay 6 0)), (1, .int w1)] → W p l e rmX6_takeNext s m args below meth c H locs 0 0 (MQ below (va_Qi (fun r u => Q r u ∧ narrow .boolean (.int r) = .int r) (Bd E lay L A) A) args s 0 0 A) (F0 m 31 ls [])) (hK52 : ∀ (σ : St) (H : Heap) (locs : List Loc) (ls : Array Slot), Kx52 σ → Wo E lay L A s σ H locs → lv_has ls 2 [] → W p l e rmX6_takeNext s m args below meth c H locs 0 0 (MQ below (va_Qi (fun r u => Q r u ∧ narrow .boolean (.int r) = .int r) (Bd E lay L A) A) args s 0 0 A) (F0 m 52 ls [])) : ∀ (n : Nat) (σ : St) (v1 : Int32) (H : Heap) (locs : List Loc) (ls : Array Slot), fX6_takeNext_l7 N Q Kx31 Kx52 n σ v1 → Wo E lay L A s σ H locs → lv_has ls 2 [(0, .ref (lay 6 0)), (1, .int v1)] → W p l e rmX6_takeNext s m args below meth c H locs 0 0 (MQ below (va_Qi (fun r u => Q r u ∧ narrow .boolean (.int r) = .int r) (Bd E lay L A) A) args s 0 0 A) (F0 m 7 ls []) := by
  have hx := C.1
  have hb := C.2.1
  intro n
  induction n with
  | zero => intro σ v1 H locs ls hf; exact hf.elim
  | succ n ih =>
    intro σ v1 H locs ls hf hw hl
    rw [fX6_takeNext_l7] at hf
    refine lv_iload_n hx hb dX6_takeNext_7 rfl (lv_at hl 1 rfl) ?_
    refine lv_if_lt (tgt := 52) hx hb dX6_takeNext_8 (by decide) (fun c1 => ?_) (fun c1 => ?_)
    · replace hf := hf.1 c1
      exact hK52 σ _ _ _ hf hw (lv_sub hl [] rfl)
    · replace hf := hf.2 c1
      refine lv_aload_n hx hb dX6_takeNext_11 rfl (lv_at hl 0 rfl) ?_
      have hm_2 : (47, 0) ∈ L := hw.2.2.2.1 6 0 hm0 2 (by decide) (by decide) rfl
      refine x_get (v := .ref (lay 47 0)) (j := 2) C hw hm0 rfl (by decide) (by decide) rfl q205 dX6_takeNext_12 ?_
      refine lv_iload_n hx hb dX6_takeNext_15 rfl (lv_at hl 1 rfl) ?_
      refine x_iald C hw hm_2 (by decide) rfl hf.1 dX6_takeNext_16 ?_
      replace hf := hf.2
      refine lv_aload_n hx hb dX6_takeNext_17 rfl (lv_at hl 0 rfl) ?_
      refine x_get (v := .int (sF σ 6 0 5)) (j := 5) C hw hm0 rfl (by decide) (by decide) rfl q208 dX6_takeNext_18 ?_
      refine lv_aload_n hx hb dX6_takeNext_21 rfl (lv_at hl 0 rfl) ?_
      refine x_get (v := .int (sF σ 6 0 6)) (j := 6) C hw hm0 rfl (by decide) (by decide) rfl q209 dX6_takeNext_22 ?_
      refine lv_isub hx hb dX6_takeNext_25 ?_
      refine lv_iload_n hx hb dX6_takeNext_26 rfl (lv_at hl 1 rfl) ?_
      refine lv_iadd hx hb dX6_takeNext_27 ?_
      refine lv_icmp_ge (tgt := 46) hx hb dX6_takeNext_28 (by decide) (fun c3 => ?_) (fun c3 => ?_)
      · replace hf := hf.1 c3
        refine lv_iinc (v := (v1 + (-1 : Int32))) (lv' := [(1, .int (v1 + (-1 : Int32))), (0, .ref (lay 6 0))]) hx hb dX6_takeNext_46 hl (k := 1) rfl (by rfl) (by decide) rfl (fun ls hl => ?_)
        refine lv_goto (tgt := 7) hx hb dX6_takeNext_49 (by decide) ?_
        exact ih σ (v1 + (-1 : Int32)) _ _ _ hf hw (lv_sub hl [1, 0] rfl)
      · replace hf := hf.2 c3
        exact hK31 σ v1 _ _ _ hf hw (lv_sub hl [0, 1] rfl)
def fX6_takeNext (N : Nat) (σ : St) (Q : Int32 → St → Prop) : Prop := fX6_takeNext_l7 N Q (fun (σ4 : St) (u31_1 : Int32) => (vp_in u31_1 14 ∧ fX6_takeOn N σ4 u31_1 ((sA σ4 47 0 (u31_1).toNatClampNeg) + (1 : Int32)) (fun (σ6 : St) => Q (1 : Int32) σ6))) (fun (σ7 : St) => Q (0 : Int32) σ7) N σ ((sF σ 6 0 6) - (1 : Int32))
set_option maxHeartbeats 4000000 in
set_option maxRecDepth 100000 in
theorem eX6_takeNext {l : Launch} {E : EC} {lay : Nat → Nat → Nat} {L : List (Nat × Nat)} {A : Nat → Prop} {N : Nat} {σ : St} {Q : Int32 → St → Prop} (hf : fX6_takeNext N σ Q) (hm0 : (6, 0) ∈ L) : Met l yX6_takeNext (.code yX6_takeNext cX6_takeNext 2 (some .boolean) :: big) rmX6_takeNext (va_Pc [.ref (lay 6 0)] (Bp E lay L A σ)) (va_Qi (fun r u => Q r u ∧ narrow .boolean (.int r) = .int r) (Bd E lay L A) A) 0 0 A := by
  refine x_met (by decide +kernel) (Nat.le_of_ble_eq_true rfl) ?_
  intro p e s m args below meth c ls C hret hw hl
  have hx := C.1
  have hb := C.2.1
  have hl : lv_has ls 2 [(0, .ref (lay 6 0))] := hl
  unfold fX6_takeNext at hf
  refine lv_aload_n hx hb dX6_takeNext_0 rfl (lv_at hl 0 rfl) ?_
  refine x_get (v := .int (sF σ 6 0 6)) (j := 6) C hw hm0 rfl (by decide) (by decide) rfl q209 dX6_takeNext_1 ?_
  refine lv_iconst (v := 1) hx hb dX6_takeNext_4 (by decide) ?_
  refine lv_isub hx hb dX6_takeNext_5 ?_
  refine lv_istore_n (lv' := [(1, .int ((sF σ 6 0 6) - (1 : Int32))), (0, .ref (lay 6 0))]) hx hb dX6_takeNext_6 rfl hl (by decide) rfl (fun ls hl => ?_)
  refine eX6_takeNext_l7 C hret hm0 ?_ ?_ N σ ((sF σ 6 0 6) - (1 : Int32)) _ _ _ hf hw (lv_sub hl [1, 0] rfl)
  · intro σ4 u31_1 H locs ls hf hw hl
    refine lv_aload_n hx hb dX6_takeNext_31 rfl (lv_at hl 0 rfl) ?_
    refine lv_iload_n hx hb dX6_takeNext_32 rfl (lv_at hl 1 rfl) ?_
    refine lv_aload_n hx hb dX6_takeNext_33 rfl (lv_at hl 0 rfl) ?_
    have hm_5 : (47, 0) ∈ L := hw.2.2.2.1 6 0 hm0 2 (by decide) (by decide) rfl
    refine x_get (v := .ref (lay 47 0)) (j := 2) C hw hm0 rfl (by decide) (by decide) rfl q205 dX6_takeNext_34 ?_
    refine lv_iload_n hx hb dX6_takeNext_37 rfl (lv_at hl 1 rfl) ?_
    refine x_iald C hw hm_5 (by decide) rfl hf.1 dX6_takeNext_38 ?_
    replace hf := hf.2
    refine lv_iconst (v := 1) hx hb dX6_takeNext_39 (by decide) ?_
    refine lv_iadd hx hb dX6_takeNext_40 ?_
    refine x_runv hw (x_V (n := 2) (rest := []) C hw hm0 (by decide) (eX6_takeOn hf hm0) q821 q823 q16 q50 q824 rfl rfl (by decide +kernel) ⟨Nat.le_of_ble_eq_true rfl, Nat.le_of_ble_eq_true rfl⟩ rfl hl.1 rfl (Nat.le_of_ble_eq_true rfl) dX6_takeNext_41) (fun σ6 H locs hf hw => ?_)
    try dsimp only at hf
    refine lv_iconst (v := 1) hx hb dX6_takeNext_44 (by decide) ?_
    exact x_zret C hret (by decide) hw ⟨hf, by decide⟩ dX6_takeNext_45
  · intro σ7 H locs ls hf hw hl
    refine lv_iconst (v := 0) hx hb dX6_takeNext_52 (by decide) ?_
    exact x_zret C hret (by decide) hw ⟨hf, by decide⟩ dX6_takeNext_53
-- X6_countAsFar
abbrev rmX6_countAsFar : Room := { frames := 2, cells := 0, slots := 0, locals := 45 }
def fX6_countAsFar_b73_37 (N : Nat) (a1 : Int32) (Q : Int32 → St → Prop) (Kh : St → Int32 → Int32 → Int32 → Prop) (Kx82 : St → Int32 → Prop) (σ : St) (v2 : Int32) (v3 : Int32) : Prop := fX6_takeNext N σ (fun (r13 : Int32) (σ12 : St) => Kh σ12 v2 v3 r13)
def fX6_countAsFar_l37 (N : Nat) (a1 : Int32) (Q : Int32 → St → Prop) (Kx82 : St → Int32 → Prop) : Nat → St → Int32 → Int32 → Int32 → Prop
  | 0, _, _, _, _ => False
  | n + 1, σ, v2, v3, v4 => ((v4 = 0 → Kx82 σ v2) ∧ (¬ v4 = 0 → (((3432 : Int32) ≤ (sF σ 6 0 9) → Kx82 σ v2) ∧ (¬ (3432 : Int32) ≤ (sF σ 6 0 9) → ∀ σ8 : St, σ8 = setF σ 6 0 9 ((sF σ 6 0 9) + (1 : Int32)) → fX6_difference N σ8 (fun (r10 : Int32) (σ9 : St) => ((r10 < v3 → fX6_countAsFar_b73_37 N a1 Q (fun (σ : St) (w2 : Int32) (w3 : Int32) (w4 : Int32) => fX6_countAsFar_l37 N a1 Q Kx82 n σ w2 w3 w4) Kx82 σ9 v2 v3) ∧ (¬ r10 < v3 → fX6_countAsFar_b73_37 N a1 Q (fun (σ : St) (w2 : Int32) (w3 : Int32) (w4 : Int32) => fX6_countAsFar_l37 N a1 Q Kx82 n σ w2 w3 w4) Kx82 σ9 (v2 + (1 : Int32)) v3)))))))
set_option maxHeartbeats 4000000 in
set_option maxRecDepth 100000 in
theorem eX6_countAsFar_b73_37 {p : Program} {l : Launch} {e : Env} {s : State} {m : MethodId} {args : Array Value} {below : List Frame} {meth : Method} {c : Code} {E : EC} {lay : Nat → Nat → Nat} {L : List (Nat × Nat)} {A : Nat → Prop} (C : Cx p s m args c meth yX6_countAsFar.cls cX6_countAsFar 5 E A) (hret : meth.sig.returnType = some .int) {N : Nat} {a1 : Int32} {Q : Int32 → St → Prop} {Kh : St → Int32 → Int32 → Int32 → Prop} {Kx82 : St → Int32 → Prop} (hm0 : (6, 0) ∈ L) (hKh : ∀ (σ : St) (w2 : Int32) (w3 : Int32) (w4 : Int32) (H : Heap) (locs : List Loc) (ls : Array Slot), Kh σ w2 w3 w4 → Wo E lay L A s σ H locs → lv_has ls 5 [(0, .ref (lay 6 0)), (2, .int w2), (3, .int w3), (4, .int w4)] → W p l e rmX6_countAsFar s m args below meth c H locs 0 0 (MQ below (va_Qi Q (Bd E lay L A) A) args s 0 0 A) (F0 m 37 ls [])) (hK82 : ∀ (σ : St) (w2 : Int32) (H : Heap) (locs : List Loc) (ls : Array Slot), Kx82 σ w2 → Wo E lay L A s σ H locs → lv_has ls 5 [(2, .int w2)] → W p l e rmX6_countAsFar s m args below meth c H locs 0 0 (MQ below (va_Qi Q (Bd E lay L A) A) args s 0 0 A) (F0 m 82 ls [])) (σ : St) (v2 : Int32) (v3 : Int32) (H : Heap) (locs : List Loc) (ls : Array Slot) (hf : fX6_countAsFar_b73_37 N a1 Q Kh Kx82 σ v2 v3) (hw : Wo E lay L A s σ H locs) (hl : lv_has ls 5 [(0, .ref (lay 6 0)), (2, .int v2), (3, .int v3)]) : W p l e rmX6_countAsFar s m args below meth c H locs 0 0 (MQ below (va_Qi Q (Bd E lay L A) A) args s 0 0 A) (F0 m 73 ls []) := by
  have hx := C.1
  have hb := C.2.1
  unfold fX6_countAsFar_b73_37 at hf
  refine lv_aload_n hx hb dX6_countAsFar_73 rfl (lv_at hl 0 rfl) ?_
  refine x_runi hw (x_V (n := 0) (rest := []) C hw hm0 (by decide) (eX6_takeNext hf hm0) q831 q833 q18 q50 q834 rfl rfl (by decide +kernel) ⟨Nat.le_of_ble_eq_true rfl, Nat.le_of_ble_eq_true rfl⟩ rfl hl.1 rfl (Nat.le_of_ble_eq_true rfl) dX6_countAsFar_74) (fun r13 σ12 H locs hf hw => ?_)
  have hzr13 := hf.2
  replace hf := hf.1
  try dsimp only at hf
  refine lv_istore (lv' := [(4, .int r13), (0, .ref (lay 6 0)), (2, .int v2), (3, .int v3)]) hx hb dX6_countAsFar_77 hl (by decide) rfl (fun ls hl => ?_)
  refine lv_goto (tgt := 37) hx hb dX6_countAsFar_79 (by decide) ?_
  exact hKh σ12 v2 v3 r13 _ _ _ hf hw (lv_sub hl [1, 2, 3, 0] rfl)
set_option maxHeartbeats 4000000 in
set_option maxRecDepth 100000 in
theorem eX6_countAsFar_l37 {p : Program} {l : Launch} {e : Env} {s : State} {m : MethodId} {args : Array Value} {below : List Frame} {meth : Method} {c : Code} {E : EC} {lay : Nat → Nat → Nat} {L : List (Nat × Nat)} {A : Nat → Prop} (C : Cx p s m args c meth yX6_countAsFar.cls cX6_countAsFar 5 E A) (hret : meth.sig.returnType = some .int) {N : Nat} {a1 : Int32} {Q : Int32 → St → Prop} {Kx82 : St → Int32 → Prop} (hm0 : (6, 0) ∈ L) (hK82 : ∀ (σ : St) (w2 : Int32) (H : Heap) (locs : List Loc) (ls : Array Slot), Kx82 σ w2 → Wo E lay L A s σ H locs → lv_has ls 5 [(2, .int w2)] → W p l e rmX6_countAsFar s m args below meth c H locs 0 0 (MQ below (va_Qi Q (Bd E lay L A) A) args s 0 0 A) (F0 m 82 ls [])) : ∀ (n : Nat) (σ : St) (v2 : Int32) (v3 : Int32) (v4 : Int32) (H : Heap) (locs : List Loc) (ls : Array Slot), fX6_countAsFar_l37 N a1 Q Kx82 n σ v2 v3 v4 → Wo E lay L A s σ H locs → lv_has ls 5 [(0, .ref (lay 6 0)), (2, .int v2), (3, .int v3), (4, .int v4)] → W p l e rmX6_countAsFar s m args below meth c H locs 0 0 (MQ below (va_Qi Q (Bd E lay L A) A) args s 0 0 A) (F0 m 37 ls []) := by
  have hx := C.1
  have hb := C.2.1
  intro n
  induction n with
  | zero => intro σ v2 v3 v4 H locs ls hf; exact hf.elim
  | succ n ih =>
    intro σ v2 v3 v4 H locs ls hf hw hl
    rw [fX6_countAsFar_l37] at hf
    refine lv_iload hx hb dX6_countAsFar_37 (lv_at hl 3 rfl) ?_
    refine lv_if_eq (tgt := 82) hx hb dX6_countAsFar_39 (by decide) (fun c6 => ?_) (fun c6 => ?_)
    · replace hf := hf.1 c6
      exact hK82 σ v2 _ _ _ hf hw (lv_sub hl [1] rfl)
    · replace hf := hf.2 c6
      refine lv_aload_n hx hb dX6_countAsFar_42 rfl (lv_at hl 0 rfl) ?_
      refine x_get (v := .int (sF σ 6 0 9)) (j := 9) C hw hm0 rfl (by decide) (by decide) rfl q212 dX6_countAsFar_43 ?_
      refine lv_sipush (v := 3432) hx hb dX6_countAsFar_46 (by decide) ?_
      refine lv_icmp_ge (tgt := 82) hx hb dX6_countAsFar_49 (by decide) (fun c7 => ?_) (fun c7 => ?_)
      · replace hf := hf.1 c7
        exact hK82 σ v2 _ _ _ hf hw (lv_sub hl [1] rfl)
      · replace hf := hf.2 c7
        refine lv_aload_n hx hb dX6_countAsFar_52 rfl (lv_at hl 0 rfl) ?_
        refine lv_dup hx hb dX6_countAsFar_53 rfl ?_
        refine x_get (v := .int (sF σ 6 0 9)) (j := 9) C hw hm0 rfl (by decide) (by decide) rfl q212 dX6_countAsFar_54 ?_
        refine lv_iconst (v := 1) hx hb dX6_countAsFar_57 (by decide) ?_
        refine lv_iadd hx hb dX6_countAsFar_58 ?_
        refine x_putI (j := 9) (ty := .int) C hw hm0 rfl (by decide) (by decide) rfl rfl (by decide +kernel) rfl rfl q212 dX6_countAsFar_59 (fun σ8 H locs eσ8 hw => ?_)
        replace hf := hf σ8 eσ8
        refine lv_aload_n hx hb dX6_countAsFar_62 rfl (lv_at hl 0 rfl) ?_
        refine x_runi hw (x_V (n := 0) (rest := []) C hw hm0 (by decide) (eX6_difference hf hm0) q825 q827 q17 q50 q828 rfl rfl (by decide +kernel) ⟨Nat.le_of_ble_eq_true rfl, Nat.le_of_ble_eq_true rfl⟩ rfl hl.1 rfl (Nat.le_of_ble_eq_true rfl) dX6_countAsFar_63) (fun r10 σ9 H locs hf hw => ?_)
        try dsimp only at hf
        refine lv_iload_n hx hb dX6_countAsFar_66 rfl (lv_at hl 2 rfl) ?_
        refine lv_icmp_lt (tgt := 73) hx hb dX6_countAsFar_67 (by decide) (fun c11 => ?_) (fun c11 => ?_)
        · replace hf := hf.1 c11
          exact eX6_countAsFar_b73_37 C hret hm0 ih hK82 σ9 v2 v3 _ _ _ hf hw (lv_sub hl [0, 1, 2] rfl)
        · replace hf := hf.2 c11
          refine lv_iinc (v := (v2 + (1 : Int32))) (lv' := [(2, .int (v2 + (1 : Int32))), (0, .ref (lay 6 0)), (3, .int v3), (4, .int v4)]) hx hb dX6_countAsFar_70 hl (k := 1) rfl (by rfl) (by decide) rfl (fun ls hl => ?_)
          exact eX6_countAsFar_b73_37 C hret hm0 ih hK82 σ9 (v2 + (1 : Int32)) v3 _ _ _ hf hw (lv_sub hl [1, 0, 2] rfl)
def fX6_countAsFar (N : Nat) (σ : St) (a1 : Int32) (Q : Int32 → St → Prop) : Prop := ∀ σ1 : St, σ1 = setF σ 6 0 6 (if (0 : Int32) < (if (sF σ 6 0 5) < a1 then (sF σ 6 0 5) else a1) then (if (sF σ 6 0 5) < a1 then (sF σ 6 0 5) else a1) else (0 : Int32)) → ∀ σ2 : St, σ2 = setF σ1 6 0 9 (0 : Int32) → fX6_takeOn N σ2 (0 : Int32) (0 : Int32) (fun (σ3 : St) => fX6_difference N σ3 (fun (r5 : Int32) (σ4 : St) => fX6_countAsFar_l37 N a1 Q (fun (σ14 : St) (u82_2 : Int32) => Q u82_2 σ14) N σ4 (0 : Int32) r5 (1 : Int32)))
set_option maxHeartbeats 4000000 in
set_option maxRecDepth 100000 in
theorem eX6_countAsFar {l : Launch} {E : EC} {lay : Nat → Nat → Nat} {L : List (Nat × Nat)} {A : Nat → Prop} {N : Nat} {σ : St} {a1 : Int32} {Q : Int32 → St → Prop} (hf : fX6_countAsFar N σ a1 Q) (hm0 : (6, 0) ∈ L) : Met l yX6_countAsFar (.code yX6_countAsFar cX6_countAsFar 5 (some .int) :: big) rmX6_countAsFar (va_Pc [.ref (lay 6 0), .int a1] (Bp E lay L A σ)) (va_Qi Q (Bd E lay L A) A) 0 0 A := by
  refine x_met (by decide +kernel) (Nat.le_of_ble_eq_true rfl) ?_
  intro p e s m args below meth c ls C hret hw hl
  have hx := C.1
  have hb := C.2.1
  have hl : lv_has ls 5 [(0, .ref (lay 6 0)), (1, .int a1)] := hl
  unfold fX6_countAsFar at hf
  refine lv_aload_n hx hb dX6_countAsFar_0 rfl (lv_at hl 0 rfl) ?_
  refine lv_iconst (v := 0) hx hb dX6_countAsFar_1 (by decide) ?_
  refine lv_iload_n hx hb dX6_countAsFar_2 rfl (lv_at hl 1 rfl) ?_
  refine lv_aload_n hx hb dX6_countAsFar_3 rfl (lv_at hl 0 rfl) ?_
  refine x_get (v := .int (sF σ 6 0 5)) (j := 5) C hw hm0 rfl (by decide) (by decide) rfl q208 dX6_countAsFar_4 ?_
  refine va_mmin hx hb (C.2.2.1.trans hl.1.symm) C.2.2.2.1 (C.2.2.2.2.1 _ q817) (C.2.2.2.2.1 _ q439) (C.2.2.2.2.1 _ q56) (C.2.2.2.2.1 _ q440) (Nat.le_of_ble_eq_true rfl) (Nat.le_of_ble_eq_true rfl) (Nat.zero_le _) (Nat.zero_le _) dX6_countAsFar_7 ?_
  refine va_mmax hx hb (C.2.2.1.trans hl.1.symm) C.2.2.2.1 (C.2.2.2.2.1 _ q818) (C.2.2.2.2.1 _ q819) (C.2.2.2.2.1 _ q56) (C.2.2.2.2.1 _ q820) (Nat.le_of_ble_eq_true rfl) (Nat.le_of_ble_eq_true rfl) (Nat.zero_le _) (Nat.zero_le _) dX6_countAsFar_10 ?_
  refine x_putI (j := 6) (ty := .int) C hw hm0 rfl (by decide) (by decide) rfl rfl (by decide +kernel) rfl rfl q209 dX6_countAsFar_13 (fun σ1 H locs eσ1 hw => ?_)
  replace hf := hf σ1 eσ1
  refine lv_aload_n hx hb dX6_countAsFar_16 rfl (lv_at hl 0 rfl) ?_
  refine lv_iconst (v := 0) hx hb dX6_countAsFar_17 (by decide) ?_
  refine x_putI (j := 9) (ty := .int) C hw hm0 rfl (by decide) (by decide) rfl rfl (by decide +kernel) rfl rfl q212 dX6_countAsFar_18 (fun σ2 H locs eσ2 hw => ?_)
  replace hf := hf σ2 eσ2
  refine lv_iconst (v := 0) hx hb dX6_countAsFar_21 (by decide) ?_
  refine lv_istore_n (lv' := [(2, .int (0 : Int32)), (0, .ref (lay 6 0)), (1, .int a1)]) hx hb dX6_countAsFar_22 rfl hl (by decide) rfl (fun ls hl => ?_)
  refine lv_aload_n hx hb dX6_countAsFar_23 rfl (lv_at hl 1 rfl) ?_
  refine lv_iconst (v := 0) hx hb dX6_countAsFar_24 (by decide) ?_
  refine lv_iconst (v := 0) hx hb dX6_countAsFar_25 (by decide) ?_
  refine x_runv hw (x_V (n := 2) (rest := []) C hw hm0 (by decide) (eX6_takeOn hf hm0) q821 q823 q16 q50 q824 rfl rfl (by decide +kernel) ⟨Nat.le_of_ble_eq_true rfl, Nat.le_of_ble_eq_true rfl⟩ rfl hl.1 rfl (Nat.le_of_ble_eq_true rfl) dX6_countAsFar_26) (fun σ3 H locs hf hw => ?_)
  try dsimp only at hf
  refine lv_aload_n hx hb dX6_countAsFar_29 rfl (lv_at hl 1 rfl) ?_
  refine x_runi hw (x_V (n := 0) (rest := []) C hw hm0 (by decide) (eX6_difference hf hm0) q825 q827 q17 q50 q828 rfl rfl (by decide +kernel) ⟨Nat.le_of_ble_eq_true rfl, Nat.le_of_ble_eq_true rfl⟩ rfl hl.1 rfl (Nat.le_of_ble_eq_true rfl) dX6_countAsFar_30) (fun r5 σ4 H locs hf hw => ?_)
  try dsimp only at hf
  refine lv_istore_n (lv' := [(3, .int r5), (2, .int (0 : Int32)), (0, .ref (lay 6 0)), (1, .int a1)]) hx hb dX6_countAsFar_33 rfl hl (by decide) rfl (fun ls hl => ?_)
  refine lv_iconst (v := 1) hx hb dX6_countAsFar_34 (by decide) ?_
  refine lv_istore (lv' := [(4, .int (1 : Int32)), (3, .int r5), (2, .int (0 : Int32)), (0, .ref (lay 6 0)), (1, .int a1)]) hx hb dX6_countAsFar_35 hl (by decide) rfl (fun ls hl => ?_)
  refine eX6_countAsFar_l37 C hret hm0 ?_ N σ4 (0 : Int32) r5 (1 : Int32) _ _ _ hf hw (lv_sub hl [3, 2, 1, 0] rfl)
  · intro σ14 u82_2 H locs ls hf hw hl
    refine lv_iload_n hx hb dX6_countAsFar_82 rfl (lv_at hl 0 rfl) ?_
    exact x_iret C hret hw hf dX6_countAsFar_83
-- X8_tell
abbrev rmX8_tell : Room := { frames := 0, cells := 0, slots := 0, locals := 0 }
def fX8_tell (N : Nat) (σ : St) (a0 : Nat) (a1 : Int32) (Q : Int32 → St → Prop) : Prop := ((a1 = (0 : Int32) → Q (sF σ 8 a0 0) σ) ∧ (a1 = (1 : Int32) → Q (sF σ 8 a0 1) σ) ∧ (a1 = (2 : Int32) → Q (sF σ 4 a0 4) σ) ∧ (a1 = (3 : Int32) → Q (sF σ 4 a0 6) σ) ∧ (¬ a1 = (0 : Int32) → ¬ a1 = (1 : Int32) → ¬ a1 = (2 : Int32) → ¬ a1 = (3 : Int32) → Q (sF σ 4 a0 7) σ))
set_option maxHeartbeats 4000000 in
set_option maxRecDepth 100000 in
theorem eX8_tell {l : Launch} {E : EC} {lay : Nat → Nat → Nat} {L : List (Nat × Nat)} {A : Nat → Prop} {N : Nat} {σ : St} {a0 : Nat} {a1 : Int32} {Q : Int32 → St → Prop} (hf : fX8_tell N σ a0 a1 Q) (hm0 : (8, a0) ∈ L) : Met l yX8_tell (.code yX8_tell cX8_tell 2 (some .int) :: big) rmX8_tell (va_Pc [.ref (lay 8 a0), .int a1] (Bp E lay L A σ)) (va_Qi Q (Bd E lay L A) A) 0 0 A := by
  refine x_met (by decide +kernel) (Nat.le_of_ble_eq_true rfl) ?_
  intro p e s m args below meth c ls C hret hw hl
  have hx := C.1
  have hb := C.2.1
  have hl : lv_has ls 2 [(0, .ref (lay 8 a0)), (1, .int a1)] := hl
  unfold fX8_tell at hf
  refine lv_iload_n hx hb dX8_tell_0 rfl (lv_at hl 1 rfl) ?_
  by_cases c1_0 : a1 = (0 : Int32)
  · replace hf := hf.1 c1_0
    rw [c1_0]
    refine lv_tableIn (off := 31) (tgt := 32) hx hb dX8_tell_1 (by decide) (by decide) (by decide) (by decide) ?_
    refine lv_aload_n hx hb dX8_tell_32 rfl (lv_at hl 0 rfl) ?_
    refine x_get (v := .int (sF σ 8 a0 0)) (j := 0) C hw hm0 rfl (by decide) (by decide) rfl q404 dX8_tell_33 ?_
    exact x_iret C hret hw hf dX8_tell_36
  by_cases c1_1 : a1 = (1 : Int32)
  · replace hf := hf.2.1 c1_1
    rw [c1_1]
    refine lv_tableIn (off := 36) (tgt := 37) hx hb dX8_tell_1 (by decide) (by decide) (by decide) (by decide) ?_
    refine lv_aload_n hx hb dX8_tell_37 rfl (lv_at hl 0 rfl) ?_
    refine x_get (v := .int (sF σ 8 a0 1)) (j := 1) C hw hm0 rfl (by decide) (by decide) rfl q406 dX8_tell_38 ?_
    exact x_iret C hret hw hf dX8_tell_41
  by_cases c1_2 : a1 = (2 : Int32)
  · replace hf := hf.2.2.1 c1_2
    rw [c1_2]
    refine lv_tableIn (off := 41) (tgt := 42) hx hb dX8_tell_1 (by decide) (by decide) (by decide) (by decide) ?_
    refine lv_aload_n hx hb dX8_tell_42 rfl (lv_at hl 0 rfl) ?_
    have hm_1 : (4, a0) ∈ L := hw.2.2.2.1 8 a0 hm0 3 (by decide) (by decide) rfl
    refine x_get (v := .ref (lay 4 a0)) (j := 3) C hw hm0 rfl (by decide) (by decide) rfl q410 dX8_tell_43 ?_
    refine x_getN (v := .int (sF σ 4 a0 4)) (j := 4) (host := "WhoseHand") C hw hm_1 rfl (by decide) (by decide) rfl q248 dX8_tell_46 ?_
    exact x_iret C hret hw hf dX8_tell_49
  by_cases c1_3 : a1 = (3 : Int32)
  · replace hf := hf.2.2.2.1 c1_3
    rw [c1_3]
    refine lv_tableIn (off := 49) (tgt := 50) hx hb dX8_tell_1 (by decide) (by decide) (by decide) (by decide) ?_
    refine lv_aload_n hx hb dX8_tell_50 rfl (lv_at hl 0 rfl) ?_
    have hm_2 : (4, a0) ∈ L := hw.2.2.2.1 8 a0 hm0 3 (by decide) (by decide) rfl
    refine x_get (v := .ref (lay 4 a0)) (j := 3) C hw hm0 rfl (by decide) (by decide) rfl q410 dX8_tell_51 ?_
    refine x_getN (v := .int (sF σ 4 a0 6)) (j := 6) (host := "WhoseHand") C hw hm_2 rfl (by decide) (by decide) rfl q254 dX8_tell_54 ?_
    exact x_iret C hret hw hf dX8_tell_57
  replace hf := hf.2.2.2.2 c1_0 c1_1 c1_2 c1_3
  refine lv_tableOut (tgt := 58) (x := a1) hx hb dX8_tell_1 (by have h := sw_out (x := a1) 0 4 (by decide) (fun k hk0 hk => by rcases (show k = 0 ∨ k = 1 ∨ k = 2 ∨ k = 3 by omega) with rfl | rfl | rfl | rfl <;> first | exact c1_0 | exact c1_1 | exact c1_2 | exact c1_3); omega) (by decide) ?_
  refine lv_aload_n hx hb dX8_tell_58 rfl (lv_at hl 0 rfl) ?_
  have hm_3 : (4, a0) ∈ L := hw.2.2.2.1 8 a0 hm0 3 (by decide) (by decide) rfl
  refine x_get (v := .ref (lay 4 a0)) (j := 3) C hw hm0 rfl (by decide) (by decide) rfl q410 dX8_tell_59 ?_
  refine x_getN (v := .int (sF σ 4 a0 7)) (j := 7) (host := "WhoseHand") C hw hm_3 rfl (by decide) (by decide) rfl q257 dX8_tell_62 ?_
  exact x_iret C hret hw hf dX8_tell_65
-- X9_begin
abbrev rmX9_begin : Room := { frames := 3, cells := 0, slots := 0, locals := 67 }
def fX9_begin_b57 (N : Nat) (a1 : Int32) (a2 : Option Nat) (Q : St → Prop) (σ : St) : Prop := (vp_in a1 14 ∧ (vp_in a1 14 ∧ (∃ i19, (sR σ 39 0 (a1).toNatClampNeg) = some i19 ∧ (∃ i21, (sR σ 40 0 (a1).toNatClampNeg) = some i21 ∧ fX2_readRates N σ i19 i21 (fun (σ23 : St) => Q σ23)))))
def fX9_begin_b21 (N : Nat) (a1 : Int32) (a2 : Option Nat) (Q : St → Prop) (σ : St) (t0 : Int32) (t1 : Int32) (t2 : Nat) : Prop := (vp_in t1 14 ∧ ∀ σ5 : St, σ5 = setA σ 41 t2 (t1).toNatClampNeg (vp_nar .boolean t0) → (vp_in a1 14 ∧ (∃ i8, (sR σ5 39 0 (a1).toNatClampNeg) = some i8 ∧ fX7_clear N σ5 i8 (fun (σ10 : St) => ((a2 = none → fX9_begin_b57 N a1 a2 Q σ10) ∧ (∀ i11, a2 = some i11 → (vp_in a1 14 ∧ (((sA σ10 41 0 (a1).toNatClampNeg) = 0 → fX9_begin_b57 N a1 a2 Q σ10) ∧ (¬ (sA σ10 41 0 (a1).toNatClampNeg) = 0 → (vp_in a1 14 ∧ (∃ i27, (sR σ10 39 0 (a1).toNatClampNeg) = some i27 ∧ fX7_add N σ10 i27 i11 (fun (σ29 : St) => fX9_begin_b57 N a1 a2 Q σ29))))))))))))
def fX9_begin_b20 (N : Nat) (a1 : Int32) (a2 : Option Nat) (Q : St → Prop) (σ : St) (t0 : Int32) (t1 : Nat) : Prop := fX9_begin_b21 N a1 a2 Q σ (0 : Int32) t0 t1
set_option maxHeartbeats 4000000 in
set_option maxRecDepth 100000 in
theorem eX9_begin_b57 {p : Program} {l : Launch} {e : Env} {s : State} {m : MethodId} {args : Array Value} {below : List Frame} {meth : Method} {c : Code} {E : EC} {lay : Nat → Nat → Nat} {L : List (Nat × Nat)} {A : Nat → Prop} (C : Cx p s m args c meth yX9_begin.cls cX9_begin 4 E A) (hret : meth.sig.returnType = none) {N : Nat} {a1 : Int32} {a2 : Option Nat} {Q : St → Prop} (hm0 : (9, 0) ∈ L) (hm2 : ∀ i, a2 = some i → (8, i) ∈ L) (hm3 : (2, 0) ∈ L) (σ : St) (H : Heap) (locs : List Loc) (ls : Array Slot) (hf : fX9_begin_b57 N a1 a2 Q σ) (hw : Wo E lay L A s σ H locs) (hl : lv_has ls 4 [(0, .ref (lay 9 0)), (1, .int a1), (3, .ref (lay 2 0))]) : W p l e rmX9_begin s m args below meth c H locs 0 0 (MQ below (va_Qv Q (Bd E lay L A) A) args s 0 0 A) (F0 m 57 ls []) := by
  have hx := C.1
  have hb := C.2.1
  unfold fX9_begin_b57 at hf
  refine lv_aload_n hx hb dX9_begin_57 rfl (lv_at hl 2 rfl) ?_
  refine lv_aload_n hx hb dX9_begin_58 rfl (lv_at hl 0 rfl) ?_
  have hm_15 : (39, 0) ∈ L := hw.2.2.2.1 9 0 hm0 0 (by decide) (by decide) rfl
  refine x_get (v := .ref (lay 39 0)) (j := 0) C hw hm0 rfl (by decide) (by decide) rfl q175 dX9_begin_59 ?_
  refine lv_iload_n hx hb dX9_begin_62 rfl (lv_at hl 1 rfl) ?_
  have hO_16 : ∀ i, (sR σ 39 0 (a1).toNatClampNeg) = some i → (7, i) ∈ L := fun i h => hw.2.2.2.2 39 _ _ i h
  refine x_aald (t := 7) (T := 7) C hw hm_15 (by decide) rfl (by decide) rfl hf.1 rfl dX9_begin_63 ?_
  replace hf := hf.2
  refine lv_aload_n hx hb dX9_begin_64 rfl (lv_at hl 0 rfl) ?_
  have hm_17 : (40, 0) ∈ L := hw.2.2.2.1 9 0 hm0 1 (by decide) (by decide) rfl
  refine x_get (v := .ref (lay 40 0)) (j := 1) C hw hm0 rfl (by decide) (by decide) rfl q176 dX9_begin_65 ?_
  refine lv_iload_n hx hb dX9_begin_68 rfl (lv_at hl 1 rfl) ?_
  have hO_18 : ∀ i, (sR σ 40 0 (a1).toNatClampNeg) = some i → (23, i) ∈ L := fun i h => hw.2.2.2.2 40 _ _ i h
  refine x_aaldA (T := 23) C hw hm_17 (by decide) rfl hf.1 rfl dX9_begin_69 ?_
  replace hf := hf.2
  obtain ⟨i19, eni19, hf⟩ := hf
  have hn_20 := hO_16 i19 eni19
  rw [show rf lay 7 (sR σ 39 0 (a1).toNatClampNeg) = .ref (lay 7 i19) from by rw [eni19]; rfl]
  obtain ⟨i21, eni21, hf⟩ := hf
  have hn_22 := hO_18 i21 eni21
  rw [show rf lay 23 (sR σ 40 0 (a1).toNatClampNeg) = .ref (lay 23 i21) from by rw [eni21]; rfl]
  refine x_runv hw (x_V (n := 2) (rest := []) C hw hm3 (by decide) (eX2_readRates hf hm3 hn_20 hn_22) q778 q629 q630 q45 q631 rfl rfl (by decide +kernel) ⟨Nat.le_of_ble_eq_true rfl, Nat.le_of_ble_eq_true rfl⟩ rfl hl.1 rfl (Nat.le_of_ble_eq_true rfl) dX9_begin_70) (fun σ23 H locs hf hw => ?_)
  try dsimp only at hf
  exact x_vret C hret hw hf dX9_begin_73
set_option maxHeartbeats 4000000 in
set_option maxRecDepth 100000 in
theorem eX9_begin_b21 {p : Program} {l : Launch} {e : Env} {s : State} {m : MethodId} {args : Array Value} {below : List Frame} {meth : Method} {c : Code} {E : EC} {lay : Nat → Nat → Nat} {L : List (Nat × Nat)} {A : Nat → Prop} (C : Cx p s m args c meth yX9_begin.cls cX9_begin 4 E A) (hret : meth.sig.returnType = none) {N : Nat} {a1 : Int32} {a2 : Option Nat} {Q : St → Prop} (hm0 : (9, 0) ∈ L) (hm2 : ∀ i, a2 = some i → (8, i) ∈ L) (hm3 : (2, 0) ∈ L) (σ : St) (t0 : Int32) (t1 : Int32) (t2 : Nat) (H : Heap) (locs : List Loc) (ls : Array Slot) (hf : fX9_begin_b21 N a1 a2 Q σ t0 t1 t2) (hw : Wo E lay L A s σ H locs) (hl : lv_has ls 4 [(0, .ref (lay 9 0)), (1, .int a1), (2, rf lay 8 a2), (3, .ref (lay 2 0))]) (ht2 : (41, t2) ∈ L) : W p l e rmX9_begin s m args below meth c H locs 0 0 (MQ below (va_Qv Q (Bd E lay L A) A) args s 0 0 A) (F0 m 21 ls [.int t0, .int t1, .ref (lay 41 t2)]) := by
  have hx := C.1
  have hb := C.2.1
  unfold fX9_begin_b21 at hf
  refine x_zast C hw ht2 (by decide) rfl hf.1 dX9_begin_21 (fun σ5 H locs eσ5 hw => ?_)
  replace hf := hf.2 σ5 eσ5
  refine lv_aload_n hx hb dX9_begin_22 rfl (lv_at hl 0 rfl) ?_
  have hm_6 : (39, 0) ∈ L := hw.2.2.2.1 9 0 hm0 0 (by decide) (by decide) rfl
  refine x_get (v := .ref (lay 39 0)) (j := 0) C hw hm0 rfl (by decide) (by decide) rfl q175 dX9_begin_23 ?_
  refine lv_iload_n hx hb dX9_begin_26 rfl (lv_at hl 1 rfl) ?_
  have hO_7 : ∀ i, (sR σ5 39 0 (a1).toNatClampNeg) = some i → (7, i) ∈ L := fun i h => hw.2.2.2.2 39 _ _ i h
  refine x_aald (t := 7) (T := 7) C hw hm_6 (by decide) rfl (by decide) rfl hf.1 rfl dX9_begin_27 ?_
  replace hf := hf.2
  obtain ⟨i8, eni8, hf⟩ := hf
  have hn_9 := hO_7 i8 eni8
  rw [show rf lay 7 (sR σ5 39 0 (a1).toNatClampNeg) = .ref (lay 7 i8) from by rw [eni8]; rfl]
  refine x_runv hw (x_V (n := 0) (rest := []) C hw hn_9 (by decide) (eX7_clear hf hn_9) q776 q612 q613 q47 q614 rfl rfl (by decide +kernel) ⟨Nat.le_of_ble_eq_true rfl, Nat.le_of_ble_eq_true rfl⟩ rfl hl.1 rfl (Nat.le_of_ble_eq_true rfl) dX9_begin_28) (fun σ10 H locs hf hw => ?_)
  try dsimp only at hf
  refine x_aload_n hx hb dX9_begin_31 rfl (lv_at hl 2 rfl) ?_
  refine x_ifnull (r := a2) (tgt := 57) hx hb dX9_begin_32 (by decide) (fun eni11 => ?_) (fun i11 eni11 => ?_)
  · replace hf := hf.1 eni11
    exact eX9_begin_b57 C hret hm0 hm2 hm3 σ10 _ _ _ hf hw (lv_sub hl [0, 1, 3] rfl)
  · replace hf := hf.2 i11 eni11
    have hn_12 := hm2 i11 eni11
    rw [eni11] at hl
    try rw [eni11]
    have hl : lv_has ls 4 [(0, .ref (lay 9 0)), (1, .int a1), (2, .ref (lay 8 i11)), (3, .ref (lay 2 0))] := hl
    refine lv_aload_n hx hb dX9_begin_35 rfl (lv_at hl 0 rfl) ?_
    have hm_13 : (41, 0) ∈ L := hw.2.2.2.1 9 0 hm0 2 (by decide) (by decide) rfl
    refine x_get (v := .ref (lay 41 0)) (j := 2) C hw hm0 rfl (by decide) (by decide) rfl q177 dX9_begin_36 ?_
    refine lv_iload_n hx hb dX9_begin_39 rfl (lv_at hl 1 rfl) ?_
    refine x_zald C hw hm_13 (by decide) rfl hf.1 dX9_begin_40 ?_
    replace hf := hf.2
    refine lv_if_eq (tgt := 57) hx hb dX9_begin_41 (by decide) (fun c14 => ?_) (fun c14 => ?_)
    · replace hf := hf.1 c14
      exact eX9_begin_b57 C hret hm0 hm2 hm3 σ10 _ _ _ hf hw (lv_sub hl [0, 1, 3] rfl)
    · replace hf := hf.2 c14
      refine lv_aload_n hx hb dX9_begin_44 rfl (lv_at hl 0 rfl) ?_
      have hm_24 : (39, 0) ∈ L := hw.2.2.2.1 9 0 hm0 0 (by decide) (by decide) rfl
      refine x_get (v := .ref (lay 39 0)) (j := 0) C hw hm0 rfl (by decide) (by decide) rfl q175 dX9_begin_45 ?_
      refine lv_iload_n hx hb dX9_begin_48 rfl (lv_at hl 1 rfl) ?_
      have hO_25 : ∀ i, (sR σ10 39 0 (a1).toNatClampNeg) = some i → (7, i) ∈ L := fun i h => hw.2.2.2.2 39 _ _ i h
      refine x_aald (t := 7) (T := 7) C hw hm_24 (by decide) rfl (by decide) rfl hf.1 rfl dX9_begin_49 ?_
      replace hf := hf.2
      refine lv_aload_n hx hb dX9_begin_50 rfl (lv_at hl 2 rfl) ?_
      have hm_26 : (7, i11) ∈ L := hw.2.2.2.1 8 i11 hn_12 4 (by decide) (by decide) rfl
      refine x_getN (v := .ref (lay 7 i11)) (j := 4) (host := "WhoseHand") C hw hn_12 rfl (by decide) (by decide) rfl q415 dX9_begin_51 ?_
      obtain ⟨i27, eni27, hf⟩ := hf
      have hn_28 := hO_25 i27 eni27
      rw [show rf lay 7 (sR σ10 39 0 (a1).toNatClampNeg) = .ref (lay 7 i27) from by rw [eni27]; rfl]
      refine x_runv hw (x_V (n := 1) (rest := []) C hw hn_28 (by decide) (eX7_add hf hn_28 hm_26) q777 q625 q626 q47 q627 rfl rfl (by decide +kernel) ⟨Nat.le_of_ble_eq_true rfl, Nat.le_of_ble_eq_true rfl⟩ rfl hl.1 rfl (Nat.le_of_ble_eq_true rfl) dX9_begin_54) (fun σ29 H locs hf hw => ?_)
      try dsimp only at hf
      exact eX9_begin_b57 C hret hm0 hm2 hm3 σ29 _ _ _ hf hw (lv_sub hl [0, 1, 3] rfl)
set_option maxHeartbeats 4000000 in
set_option maxRecDepth 100000 in
theorem eX9_begin_b20 {p : Program} {l : Launch} {e : Env} {s : State} {m : MethodId} {args : Array Value} {below : List Frame} {meth : Method} {c : Code} {E : EC} {lay : Nat → Nat → Nat} {L : List (Nat × Nat)} {A : Nat → Prop} (C : Cx p s m args c meth yX9_begin.cls cX9_begin 4 E A) (hret : meth.sig.returnType = none) {N : Nat} {a1 : Int32} {a2 : Option Nat} {Q : St → Prop} (hm0 : (9, 0) ∈ L) (hm2 : ∀ i, a2 = some i → (8, i) ∈ L) (hm3 : (2, 0) ∈ L) (σ : St) (t0 : Int32) (t1 : Nat) (H : Heap) (locs : List Loc) (ls : Array Slot) (hf : fX9_begin_b20 N a1 a2 Q σ t0 t1) (hw : Wo E lay L A s σ H locs) (hl : lv_has ls 4 [(0, .ref (lay 9 0)), (1, .int a1), (2, rf lay 8 a2), (3, .ref (lay 2 0))]) (ht1 : (41, t1) ∈ L) : W p l e rmX9_begin s m args below meth c H locs 0 0 (MQ below (va_Qv Q (Bd E lay L A) A) args s 0 0 A) (F0 m 20 ls [.int t0, .ref (lay 41 t1)]) := by
  have hx := C.1
  have hb := C.2.1
  unfold fX9_begin_b20 at hf
  refine lv_iconst (v := 0) hx hb dX9_begin_20 (by decide) ?_
  exact eX9_begin_b21 C hret hm0 hm2 hm3 σ (0 : Int32) t0 t1 _ _ _ hf hw (lv_sub hl [0, 1, 2, 3] rfl) ht1
def fX9_begin (N : Nat) (σ : St) (a1 : Int32) (a2 : Option Nat) (Q : St → Prop) : Prop := ((a2 = none → fX9_begin_b20 N a1 a2 Q σ a1 0) ∧ (∀ i2, a2 = some i2 → ((¬ (sF σ 8 i2 5) = 0 → fX9_begin_b20 N a1 a2 Q σ a1 0) ∧ ((sF σ 8 i2 5) = 0 → fX9_begin_b21 N a1 a2 Q σ (1 : Int32) a1 0))))
set_option maxHeartbeats 4000000 in
set_option maxRecDepth 100000 in
theorem eX9_begin {l : Launch} {E : EC} {lay : Nat → Nat → Nat} {L : List (Nat × Nat)} {A : Nat → Prop} {N : Nat} {σ : St} {a1 : Int32} {a2 : Option Nat} {Q : St → Prop} (hf : fX9_begin N σ a1 a2 Q) (hm0 : (9, 0) ∈ L) (hm2 : ∀ i, a2 = some i → (8, i) ∈ L) (hm3 : (2, 0) ∈ L) : Met l yX9_begin (.code yX9_begin cX9_begin 4 (none) :: big) rmX9_begin (va_Pc [.ref (lay 9 0), .int a1, rf lay 8 a2, .ref (lay 2 0)] (Bp E lay L A σ)) (va_Qv Q (Bd E lay L A) A) 0 0 A := by
  refine x_met (by decide +kernel) (by cases a2 <;> exact Nat.le_of_ble_eq_true rfl) ?_
  intro p e s m args below meth c ls C hret hw hl
  have hx := C.1
  have hb := C.2.1
  have hl : lv_has ls 4 [(0, .ref (lay 9 0)), (1, .int a1), (2, rf lay 8 a2), (3, .ref (lay 2 0))] := by cases a2 <;> exact hl
  unfold fX9_begin at hf
  refine lv_aload_n hx hb dX9_begin_0 rfl (lv_at hl 0 rfl) ?_
  have hm_1 : (41, 0) ∈ L := hw.2.2.2.1 9 0 hm0 2 (by decide) (by decide) rfl
  refine x_get (v := .ref (lay 41 0)) (j := 2) C hw hm0 rfl (by decide) (by decide) rfl q177 dX9_begin_1 ?_
  refine lv_iload_n hx hb dX9_begin_4 rfl (lv_at hl 1 rfl) ?_
  refine x_aload_n hx hb dX9_begin_5 rfl (lv_at hl 2 rfl) ?_
  refine x_ifnull (r := a2) (tgt := 20) hx hb dX9_begin_6 (by decide) (fun eni2 => ?_) (fun i2 eni2 => ?_)
  · replace hf := hf.1 eni2
    exact eX9_begin_b20 C hret hm0 hm2 hm3 σ a1 0 _ _ _ hf hw (lv_sub hl [0, 1, 2, 3] rfl) hm_1
  · replace hf := hf.2 i2 eni2
    have hn_3 := hm2 i2 eni2
    rw [eni2] at hl
    try rw [eni2]
    have hl : lv_has ls 4 [(0, .ref (lay 9 0)), (1, .int a1), (2, .ref (lay 8 i2)), (3, .ref (lay 2 0))] := hl
    refine lv_aload_n hx hb dX9_begin_9 rfl (lv_at hl 2 rfl) ?_
    refine x_getN (v := .int (sF σ 8 i2 5)) (j := 5) (host := "WhoseHand") C hw hn_3 rfl (by decide) (by decide) rfl q419 dX9_begin_10 ?_
    refine lv_if_ne (tgt := 20) hx hb dX9_begin_13 (by decide) (fun c4 => ?_) (fun c4 => ?_)
    · replace hf := hf.1 c4
      exact eX9_begin_b20 C hret hm0 hm2 hm3 σ a1 0 _ _ _ hf hw (lv_sub hl [0, 1, 2, 3] (by rw [eni2]; rfl)) hm_1
    · replace hf := hf.2 c4
      refine lv_iconst (v := 1) hx hb dX9_begin_16 (by decide) ?_
      refine lv_goto (tgt := 21) hx hb dX9_begin_17 (by decide) ?_
      exact eX9_begin_b21 C hret hm0 hm2 hm3 σ (1 : Int32) a1 0 _ _ _ hf hw (lv_sub hl [0, 1, 2, 3] (by rw [eni2]; rfl)) hm_1
-- X9_findNearestPair
abbrev rmX9_findNearestPair : Room := { frames := 2, cells := 0, slots := 0, locals := 46 }
def fX9_findNearestPair_b119_15 (N : Nat) (Q : Int32 → St → Prop) (Kh : St → Int32 → Int32 → Int32 → Prop) (Kx125 : St → Int32 → Int32 → Prop) (σ : St) (v2 : Int32) (v3 : Int32) (v4 : Int32) : Prop := Kh σ v2 v3 (v4 + (1 : Int32))
def fX9_findNearestPair_b85_15 (N : Nat) (Q : Int32 → St → Prop) (Kh : St → Int32 → Int32 → Int32 → Prop) (Kx125 : St → Int32 → Int32 → Prop) (σ : St) (v3 : Int32) (v4 : Int32) (v5 : Int32) : Prop := (vp_in (sF σ 9 0 6) 14 ∧ ∀ σ19 : St, σ19 = setA σ 42 0 ((sF σ 9 0 6)).toNatClampNeg v3 → (vp_in (sF σ19 9 0 6) 14 ∧ ∀ σ21 : St, σ21 = setA σ19 43 0 ((sF σ19 9 0 6)).toNatClampNeg v4 → (vp_in (sF σ21 9 0 6) 14 ∧ ∀ σ23 : St, σ23 = setA σ21 44 0 ((sF σ21 9 0 6)).toNatClampNeg v5 → fX9_findNearestPair_b119_15 N Q Kh Kx125 σ23 (1 : Int32) v3 v4)))
def fX9_findNearestPair_l15 (N : Nat) (Q : Int32 → St → Prop) (Kx125 : St → Int32 → Int32 → Prop) : Nat → St → Int32 → Int32 → Int32 → Prop
  | 0, _, _, _, _ => False
  | n + 1, σ, v2, v3, v4 => (((14 : Int32) ≤ v4 → Kx125 σ v2 v3) ∧ (¬ (14 : Int32) ≤ v4 → (vp_in v3 14 ∧ (((sA σ 41 0 (v3).toNatClampNeg) = 0 → Kx125 σ v2 v3) ∧ (¬ (sA σ 41 0 (v3).toNatClampNeg) = 0 → (vp_in v4 14 ∧ ((¬ (sA σ 41 0 (v4).toNatClampNeg) = 0 → (vp_in v3 14 ∧ (vp_in v4 14 ∧ (∃ i11, (sR σ 40 0 (v3).toNatClampNeg) = some i11 ∧ (∃ i13, (sR σ 40 0 (v4).toNatClampNeg) = some i13 ∧ fX2_farness N σ i11 i13 (-1 : Int32) (fun (r16 : Int32) (σ15 : St) => ((v2 = 0 → fX9_findNearestPair_b85_15 N Q (fun (σ : St) (w2 : Int32) (w3 : Int32) (w4 : Int32) => fX9_findNearestPair_l15 N Q Kx125 n σ w2 w3 w4) Kx125 σ15 v3 v4 r16) ∧ (¬ v2 = 0 → (vp_in (sF σ15 9 0 6) 14 ∧ ((r16 < (sA σ15 44 0 ((sF σ15 9 0 6)).toNatClampNeg) → fX9_findNearestPair_b85_15 N Q (fun (σ : St) (w2 : Int32) (w3 : Int32) (w4 : Int32) => fX9_findNearestPair_l15 N Q Kx125 n σ w2 w3 w4) Kx125 σ15 v3 v4 r16) ∧ (¬ r16 < (sA σ15 44 0 ((sF σ15 9 0 6)).toNatClampNeg) → fX9_findNearestPair_b119_15 N Q (fun (σ : St) (w2 : Int32) (w3 : Int32) (w4 : Int32) => fX9_findNearestPair_l15 N Q Kx125 n σ w2 w3 w4) Kx125 σ15 v2 v3 v4))))))))))) ∧ ((sA σ 41 0 (v4).toNatClampNeg) = 0 → fX9_findNearestPair_b119_15 N Q (fun (σ : St) (w2 : Int32) (w3 : Int32) (w4 : Int32) => fX9_findNearestPair_l15 N Q Kx125 n σ w2 w3 w4) Kx125 σ v2 v3 v4))))))))
def fX9_findNearestPair_b125_4 (N : Nat) (Q : Int32 → St → Prop) (Kh : St → Int32 → Int32 → Prop) (Kx131 : St → Int32 → Prop) (σ : St) (v2 : Int32) (v3 : Int32) : Prop := Kh σ v2 (v3 + (1 : Int32))
def fX9_findNearestPair_l4 (N : Nat) (Q : Int32 → St → Prop) (Kx131 : St → Int32 → Prop) : Nat → St → Int32 → Int32 → Prop
  | 0, _, _, _ => False
  | n + 1, σ, v2, v3 => (((14 : Int32) ≤ v3 → Kx131 σ v2) ∧ (¬ (14 : Int32) ≤ v3 → fX9_findNearestPair_l15 N Q (fun (σ26 : St) (u125_2 : Int32) (u125_3 : Int32) => fX9_findNearestPair_b125_4 N Q (fun (σ : St) (w2 : Int32) (w3 : Int32) => fX9_findNearestPair_l4 N Q Kx131 n σ w2 w3) Kx131 σ26 u125_2 u125_3) N σ v2 v3 (v3 + (1 : Int32))))
set_option maxHeartbeats 4000000 in
set_option maxRecDepth 100000 in
theorem eX9_findNearestPair_b119_15 {p : Program} {l : Launch} {e : Env} {s : State} {m : MethodId} {args : Array Value} {below : List Frame} {meth : Method} {c : Code} {E : EC} {lay : Nat → Nat → Nat} {L : List (Nat × Nat)} {A : Nat → Prop} (C : Cx p s m args c meth yX9_findNearestPair.cls cX9_findNearestPair 6 E A) (hret : meth.sig.returnType = some .boolean) {N : Nat} {Q : Int32 → St → Prop} {Kh : St → Int32 → Int32 → Int32 → Prop} {Kx125 : St → Int32 → Int32 → Prop} (hm0 : (9, 0) ∈ L) (hm1 : (2, 0) ∈ L) (hKh : ∀ (σ : St) (w2 : Int32) (w3 : Int32) (w4 : Int32) (H : Heap) (locs : List Loc) (ls : Array Slot), Kh σ w2 w3 w4 → Wo E lay L A s σ H locs → lv_has ls 6 [(0, .ref (lay 9 0)), (1, .ref (lay 2 0)), (2, .int w2), (3, .int w3), (4, .int w4)] → W p l e rmX9_findNearestPair s m args below meth c H locs 0 0 (MQ below (va_Qi (fun r u => Q r u ∧ narrow .boolean (.int r) = .int r) (Bd E lay L A) A) args s 0 0 A) (F0 m 15 ls [])) (hK125 : ∀ (σ : St) (w2 : Int32) (w3 : Int32) (H : Heap) (locs : List Loc) (ls : Array Slot), Kx125 σ w2 w3 → Wo E lay L A s σ H locs → lv_has ls 6 [(0, .ref (lay 9 0)), (1, .ref (lay 2 0)), (2, .int w2), (3, .int w3)] → W p l e rmX9_findNearestPair s m args below meth c H locs 0 0 (MQ below (va_Qi (fun r u => Q r u ∧ narrow .boolean (.int r) = .int r) (Bd E lay L A) A) args s 0 0 A) (F0 m 125 ls [])) (σ : St) (v2 : Int32) (v3 : Int32) (v4 : Int32) (H : Heap) (locs : List Loc) (ls : Array Slot) (hf : fX9_findNearestPair_b119_15 N Q Kh Kx125 σ v2 v3 v4) (hw : Wo E lay L A s σ H locs) (hl : lv_has ls 6 [(0, .ref (lay 9 0)), (1, .ref (lay 2 0)), (2, .int v2), (3, .int v3), (4, .int v4)]) : W p l e rmX9_findNearestPair s m args below meth c H locs 0 0 (MQ below (va_Qi (fun r u => Q r u ∧ narrow .boolean (.int r) = .int r) (Bd E lay L A) A) args s 0 0 A) (F0 m 119 ls []) := by
  have hx := C.1
  have hb := C.2.1
  unfold fX9_findNearestPair_b119_15 at hf
  refine lv_iinc (v := (v4 + (1 : Int32))) (lv' := [(4, .int (v4 + (1 : Int32))), (0, .ref (lay 9 0)), (1, .ref (lay 2 0)), (2, .int v2), (3, .int v3)]) hx hb dX9_findNearestPair_119 hl (k := 4) rfl (by rfl) (by decide) rfl (fun ls hl => ?_)
  refine lv_goto (tgt := 15) hx hb dX9_findNearestPair_122 (by decide) ?_
  exact hKh σ v2 v3 (v4 + (1 : Int32)) _ _ _ hf hw (lv_sub hl [1, 2, 3, 4, 0] rfl)
set_option maxHeartbeats 4000000 in
set_option maxRecDepth 100000 in
theorem eX9_findNearestPair_b85_15 {p : Program} {l : Launch} {e : Env} {s : State} {m : MethodId} {args : Array Value} {below : List Frame} {meth : Method} {c : Code} {E : EC} {lay : Nat → Nat → Nat} {L : List (Nat × Nat)} {A : Nat → Prop} (C : Cx p s m args c meth yX9_findNearestPair.cls cX9_findNearestPair 6 E A) (hret : meth.sig.returnType = some .boolean) {N : Nat} {Q : Int32 → St → Prop} {Kh : St → Int32 → Int32 → Int32 → Prop} {Kx125 : St → Int32 → Int32 → Prop} (hm0 : (9, 0) ∈ L) (hm1 : (2, 0) ∈ L) (hKh : ∀ (σ : St) (w2 : Int32) (w3 : Int32) (w4 : Int32) (H : Heap) (locs : List Loc) (ls : Array Slot), Kh σ w2 w3 w4 → Wo E lay L A s σ H locs → lv_has ls 6 [(0, .ref (lay 9 0)), (1, .ref (lay 2 0)), (2, .int w2), (3, .int w3), (4, .int w4)] → W p l e rmX9_findNearestPair s m args below meth c H locs 0 0 (MQ below (va_Qi (fun r u => Q r u ∧ narrow .boolean (.int r) = .int r) (Bd E lay L A) A) args s 0 0 A) (F0 m 15 ls [])) (hK125 : ∀ (σ : St) (w2 : Int32) (w3 : Int32) (H : Heap) (locs : List Loc) (ls : Array Slot), Kx125 σ w2 w3 → Wo E lay L A s σ H locs → lv_has ls 6 [(0, .ref (lay 9 0)), (1, .ref (lay 2 0)), (2, .int w2), (3, .int w3)] → W p l e rmX9_findNearestPair s m args below meth c H locs 0 0 (MQ below (va_Qi (fun r u => Q r u ∧ narrow .boolean (.int r) = .int r) (Bd E lay L A) A) args s 0 0 A) (F0 m 125 ls [])) (σ : St) (v3 : Int32) (v4 : Int32) (v5 : Int32) (H : Heap) (locs : List Loc) (ls : Array Slot) (hf : fX9_findNearestPair_b85_15 N Q Kh Kx125 σ v3 v4 v5) (hw : Wo E lay L A s σ H locs) (hl : lv_has ls 6 [(0, .ref (lay 9 0)), (1, .ref (lay 2 0)), (3, .int v3), (4, .int v4), (5, .int v5)]) : W p l e rmX9_findNearestPair s m args below meth c H locs 0 0 (MQ below (va_Qi (fun r u => Q r u ∧ narrow .boolean (.int r) = .int r) (Bd E lay L A) A) args s 0 0 A) (F0 m 85 ls []) := by
  have hx := C.1
  have hb := C.2.1
  unfold fX9_findNearestPair_b85_15 at hf
  refine lv_iconst (v := 1) hx hb dX9_findNearestPair_85 (by decide) ?_
  refine lv_istore_n (lv' := [(2, .int (1 : Int32)), (0, .ref (lay 9 0)), (1, .ref (lay 2 0)), (3, .int v3), (4, .int v4), (5, .int v5)]) hx hb dX9_findNearestPair_86 rfl hl (by decide) rfl (fun ls hl => ?_)
  refine lv_aload_n hx hb dX9_findNearestPair_87 rfl (lv_at hl 1 rfl) ?_
  have hm_18 : (42, 0) ∈ L := hw.2.2.2.1 9 0 hm0 3 (by decide) (by decide) rfl
  refine x_get (v := .ref (lay 42 0)) (j := 3) C hw hm0 rfl (by decide) (by decide) rfl q178 dX9_findNearestPair_88 ?_
  refine lv_aload_n hx hb dX9_findNearestPair_91 rfl (lv_at hl 1 rfl) ?_
  refine x_get (v := .int (sF σ 9 0 6)) (j := 6) C hw hm0 rfl (by decide) (by decide) rfl q181 dX9_findNearestPair_92 ?_
  refine lv_iload_n hx hb dX9_findNearestPair_95 rfl (lv_at hl 3 rfl) ?_
  refine x_iast C hw hm_18 (by decide) rfl hf.1 dX9_findNearestPair_96 (fun σ19 H locs eσ19 hw => ?_)
  replace hf := hf.2 σ19 eσ19
  refine lv_aload_n hx hb dX9_findNearestPair_97 rfl (lv_at hl 1 rfl) ?_
  have hm_20 : (43, 0) ∈ L := hw.2.2.2.1 9 0 hm0 4 (by decide) (by decide) rfl
  refine x_get (v := .ref (lay 43 0)) (j := 4) C hw hm0 rfl (by decide) (by decide) rfl q179 dX9_findNearestPair_98 ?_
  refine lv_aload_n hx hb dX9_findNearestPair_101 rfl (lv_at hl 1 rfl) ?_
  refine x_get (v := .int (sF σ19 9 0 6)) (j := 6) C hw hm0 rfl (by decide) (by decide) rfl q181 dX9_findNearestPair_102 ?_
  refine lv_iload hx hb dX9_findNearestPair_105 (lv_at hl 4 rfl) ?_
  refine x_iast C hw hm_20 (by decide) rfl hf.1 dX9_findNearestPair_107 (fun σ21 H locs eσ21 hw => ?_)
  replace hf := hf.2 σ21 eσ21
  refine lv_aload_n hx hb dX9_findNearestPair_108 rfl (lv_at hl 1 rfl) ?_
  have hm_22 : (44, 0) ∈ L := hw.2.2.2.1 9 0 hm0 5 (by decide) (by decide) rfl
  refine x_get (v := .ref (lay 44 0)) (j := 5) C hw hm0 rfl (by decide) (by decide) rfl q180 dX9_findNearestPair_109 ?_
  refine lv_aload_n hx hb dX9_findNearestPair_112 rfl (lv_at hl 1 rfl) ?_
  refine x_get (v := .int (sF σ21 9 0 6)) (j := 6) C hw hm0 rfl (by decide) (by decide) rfl q181 dX9_findNearestPair_113 ?_
  refine lv_iload hx hb dX9_findNearestPair_116 (lv_at hl 5 rfl) ?_
  refine x_iast C hw hm_22 (by decide) rfl hf.1 dX9_findNearestPair_118 (fun σ23 H locs eσ23 hw => ?_)
  replace hf := hf.2 σ23 eσ23
  exact eX9_findNearestPair_b119_15 C hret hm0 hm1 hKh hK125 σ23 (1 : Int32) v3 v4 _ _ _ hf hw (lv_sub hl [1, 2, 0, 3, 4] rfl)
set_option maxHeartbeats 4000000 in
set_option maxRecDepth 100000 in
theorem eX9_findNearestPair_l15 {p : Program} {l : Launch} {e : Env} {s : State} {m : MethodId} {args : Array Value} {below : List Frame} {meth : Method} {c : Code} {E : EC} {lay : Nat → Nat → Nat} {L : List (Nat × Nat)} {A : Nat → Prop} (C : Cx p s m args c meth yX9_findNearestPair.cls cX9_findNearestPair 6 E A) (hret : meth.sig.returnType = some .boolean) {N : Nat} {Q : Int32 → St → Prop} {Kx125 : St → Int32 → Int32 → Prop} (hm0 : (9, 0) ∈ L) (hm1 : (2, 0) ∈ L) (hK125 : ∀ (σ : St) (w2 : Int32) (w3 : Int32) (H : Heap) (locs : List Loc) (ls : Array Slot), Kx125 σ w2 w3 → Wo E lay L A s σ H locs → lv_has ls 6 [(0, .ref (lay 9 0)), (1, .ref (lay 2 0)), (2, .int w2), (3, .int w3)] → W p l e rmX9_findNearestPair s m args below meth c H locs 0 0 (MQ below (va_Qi (fun r u => Q r u ∧ narrow .boolean (.int r) = .int r) (Bd E lay L A) A) args s 0 0 A) (F0 m 125 ls [])) : ∀ (n : Nat) (σ : St) (v2 : Int32) (v3 : Int32) (v4 : Int32) (H : Heap) (locs : List Loc) (ls : Array Slot), fX9_findNearestPair_l15 N Q Kx125 n σ v2 v3 v4 → Wo E lay L A s σ H locs → lv_has ls 6 [(0, .ref (lay 9 0)), (1, .ref (lay 2 0)), (2, .int v2), (3, .int v3), (4, .int v4)] → W p l e rmX9_findNearestPair s m args below meth c H locs 0 0 (MQ below (va_Qi (fun r u => Q r u ∧ narrow .boolean (.int r) = .int r) (Bd E lay L A) A) args s 0 0 A) (F0 m 15 ls []) := by
  have hx := C.1
  have hb := C.2.1
  intro n
  induction n with
  | zero => intro σ v2 v3 v4 H locs ls hf; exact hf.elim
  | succ n ih =>
    intro σ v2 v3 v4 H locs ls hf hw hl
    rw [fX9_findNearestPair_l15] at hf
    refine lv_iload hx hb dX9_findNearestPair_15 (lv_at hl 4 rfl) ?_
    refine lv_bipush (v := 14) hx hb dX9_findNearestPair_17 (by decide) ?_
    refine lv_icmp_ge (tgt := 125) hx hb dX9_findNearestPair_19 (by decide) (fun c2 => ?_) (fun c2 => ?_)
    · replace hf := hf.1 c2
      exact hK125 σ v2 v3 _ _ _ hf hw (lv_sub hl [0, 1, 2, 3] rfl)
    · replace hf := hf.2 c2
      refine lv_aload_n hx hb dX9_findNearestPair_22 rfl (lv_at hl 0 rfl) ?_
      have hm_3 : (41, 0) ∈ L := hw.2.2.2.1 9 0 hm0 2 (by decide) (by decide) rfl
      refine x_get (v := .ref (lay 41 0)) (j := 2) C hw hm0 rfl (by decide) (by decide) rfl q177 dX9_findNearestPair_23 ?_
      refine lv_iload_n hx hb dX9_findNearestPair_26 rfl (lv_at hl 3 rfl) ?_
      refine x_zald C hw hm_3 (by decide) rfl hf.1 dX9_findNearestPair_27 ?_
      replace hf := hf.2
      refine lv_if_eq (tgt := 125) hx hb dX9_findNearestPair_28 (by decide) (fun c4 => ?_) (fun c4 => ?_)
      · replace hf := hf.1 c4
        exact hK125 σ v2 v3 _ _ _ hf hw (lv_sub hl [0, 1, 2, 3] rfl)
      · replace hf := hf.2 c4
        refine lv_aload_n hx hb dX9_findNearestPair_31 rfl (lv_at hl 0 rfl) ?_
        have hm_5 : (41, 0) ∈ L := hw.2.2.2.1 9 0 hm0 2 (by decide) (by decide) rfl
        refine x_get (v := .ref (lay 41 0)) (j := 2) C hw hm0 rfl (by decide) (by decide) rfl q177 dX9_findNearestPair_32 ?_
        refine lv_iload hx hb dX9_findNearestPair_35 (lv_at hl 4 rfl) ?_
        refine x_zald C hw hm_5 (by decide) rfl hf.1 dX9_findNearestPair_37 ?_
        replace hf := hf.2
        refine lv_if_ne (tgt := 44) hx hb dX9_findNearestPair_38 (by decide) (fun c6 => ?_) (fun c6 => ?_)
        · replace hf := hf.1 c6
          refine lv_aload_n hx hb dX9_findNearestPair_44 rfl (lv_at hl 1 rfl) ?_
          refine lv_aload_n hx hb dX9_findNearestPair_45 rfl (lv_at hl 0 rfl) ?_
          have hm_7 : (40, 0) ∈ L := hw.2.2.2.1 9 0 hm0 1 (by decide) (by decide) rfl
          refine x_get (v := .ref (lay 40 0)) (j := 1) C hw hm0 rfl (by decide) (by decide) rfl q176 dX9_findNearestPair_46 ?_
          refine lv_iload_n hx hb dX9_findNearestPair_49 rfl (lv_at hl 3 rfl) ?_
          have hO_8 : ∀ i, (sR σ 40 0 (v3).toNatClampNeg) = some i → (23, i) ∈ L := fun i h => hw.2.2.2.2 40 _ _ i h
          refine x_aaldA (T := 23) C hw hm_7 (by decide) rfl hf.1 rfl dX9_findNearestPair_50 ?_
          replace hf := hf.2
          refine lv_aload_n hx hb dX9_findNearestPair_51 rfl (lv_at hl 0 rfl) ?_
          have hm_9 : (40, 0) ∈ L := hw.2.2.2.1 9 0 hm0 1 (by decide) (by decide) rfl
          refine x_get (v := .ref (lay 40 0)) (j := 1) C hw hm0 rfl (by decide) (by decide) rfl q176 dX9_findNearestPair_52 ?_
          refine lv_iload hx hb dX9_findNearestPair_55 (lv_at hl 4 rfl) ?_
          have hO_10 : ∀ i, (sR σ 40 0 (v4).toNatClampNeg) = some i → (23, i) ∈ L := fun i h => hw.2.2.2.2 40 _ _ i h
          refine x_aaldA (T := 23) C hw hm_9 (by decide) rfl hf.1 rfl dX9_findNearestPair_57 ?_
          replace hf := hf.2
          refine lv_iconst (v := (-1)) hx hb dX9_findNearestPair_58 (by decide) ?_
          obtain ⟨i11, eni11, hf⟩ := hf
          have hn_12 := hO_8 i11 eni11
          rw [show rf lay 23 (sR σ 40 0 (v3).toNatClampNeg) = .ref (lay 23 i11) from by rw [eni11]; rfl]
          obtain ⟨i13, eni13, hf⟩ := hf
          have hn_14 := hO_10 i13 eni13
          rw [show rf lay 23 (sR σ 40 0 (v4).toNatClampNeg) = .ref (lay 23 i13) from by rw [eni13]; rfl]
          refine x_runi hw (x_V (n := 3) (rest := []) C hw hm1 (by decide) (eX2_farness hf hm1 hn_12 hn_14) q783 q656 q657 q45 q658 rfl rfl (by decide +kernel) ⟨Nat.le_of_ble_eq_true rfl, Nat.le_of_ble_eq_true rfl⟩ rfl hl.1 rfl (Nat.le_of_ble_eq_true rfl) dX9_findNearestPair_59) (fun r16 σ15 H locs hf hw => ?_)
          try dsimp only at hf
          refine lv_istore (lv' := [(5, .int r16), (0, .ref (lay 9 0)), (1, .ref (lay 2 0)), (2, .int v2), (3, .int v3), (4, .int v4)]) hx hb dX9_findNearestPair_62 hl (by decide) rfl (fun ls hl => ?_)
          refine lv_iload_n hx hb dX9_findNearestPair_64 rfl (lv_at hl 3 rfl) ?_
          refine lv_if_eq (tgt := 85) hx hb dX9_findNearestPair_65 (by decide) (fun c17 => ?_) (fun c17 => ?_)
          · replace hf := hf.1 c17
            exact eX9_findNearestPair_b85_15 C hret hm0 hm1 ih hK125 σ15 v3 v4 r16 _ _ _ hf hw (lv_sub hl [1, 2, 4, 5, 0] rfl)
          · replace hf := hf.2 c17
            refine lv_iload hx hb dX9_findNearestPair_68 (lv_at hl 0 rfl) ?_
            refine lv_aload_n hx hb dX9_findNearestPair_70 rfl (lv_at hl 1 rfl) ?_
            have hm_24 : (44, 0) ∈ L := hw.2.2.2.1 9 0 hm0 5 (by decide) (by decide) rfl
            refine x_get (v := .ref (lay 44 0)) (j := 5) C hw hm0 rfl (by decide) (by decide) rfl q180 dX9_findNearestPair_71 ?_
            refine lv_aload_n hx hb dX9_findNearestPair_74 rfl (lv_at hl 1 rfl) ?_
            refine x_get (v := .int (sF σ15 9 0 6)) (j := 6) C hw hm0 rfl (by decide) (by decide) rfl q181 dX9_findNearestPair_75 ?_
            refine x_iald C hw hm_24 (by decide) rfl hf.1 dX9_findNearestPair_78 ?_
            replace hf := hf.2
            refine lv_icmp_lt (tgt := 85) hx hb dX9_findNearestPair_79 (by decide) (fun c25 => ?_) (fun c25 => ?_)
            · replace hf := hf.1 c25
              exact eX9_findNearestPair_b85_15 C hret hm0 hm1 ih hK125 σ15 v3 v4 r16 _ _ _ hf hw (lv_sub hl [1, 2, 4, 5, 0] rfl)
            · replace hf := hf.2 c25
              refine lv_goto (tgt := 119) hx hb dX9_findNearestPair_82 (by decide) ?_
              exact eX9_findNearestPair_b119_15 C hret hm0 hm1 ih hK125 σ15 v2 v3 v4 _ _ _ hf hw (lv_sub hl [1, 2, 3, 4, 5] rfl)
        · replace hf := hf.2 c6
          refine lv_goto (tgt := 119) hx hb dX9_findNearestPair_41 (by decide) ?_
          exact eX9_findNearestPair_b119_15 C hret hm0 hm1 ih hK125 σ v2 v3 v4 _ _ _ hf hw (lv_sub hl [0, 1, 2, 3, 4] rfl)
set_option maxHeartbeats 4000000 in
set_option maxRecDepth 100000 in
theorem eX9_findNearestPair_b125_4 {p : Program} {l : Launch} {e : Env} {s : State} {m : MethodId} {args : Array Value} {below : List Frame} {meth : Method} {c : Code} {E : EC} {lay : Nat → Nat → Nat} {L : List (Nat × Nat)} {A : Nat → Prop} (C : Cx p s m args c meth yX9_findNearestPair.cls cX9_findNearestPair 6 E A) (hret : meth.sig.returnType = some .boolean) {N : Nat} {Q : Int32 → St → Prop} {Kh : St → Int32 → Int32 → Prop} {Kx131 : St → Int32 → Prop} (hm0 : (9, 0) ∈ L) (hm1 : (2, 0) ∈ L) (hKh : ∀ (σ : St) (w2 : Int32) (w3 : Int32) (H : Heap) (locs : List Loc) (ls : Array Slot), Kh σ w2 w3 → Wo E lay L A s σ H locs → lv_has ls 6 [(0, .ref (lay 9 0)), (1, .ref (lay 2 0)), (2, .int w2), (3, .int w3)] → W p l e rmX9_findNearestPair s m args below meth c H locs 0 0 (MQ below (va_Qi (fun r u => Q r u ∧ narrow .boolean (.int r) = .int r) (Bd E lay L A) A) args s 0 0 A) (F0 m 4 ls [])) (hK131 : ∀ (σ : St) (w2 : Int32) (H : Heap) (locs : List Loc) (ls : Array Slot), Kx131 σ w2 → Wo E lay L A s σ H locs → lv_has ls 6 [(2, .int w2)] → W p l e rmX9_findNearestPair s m args below meth c H locs 0 0 (MQ below (va_Qi (fun r u => Q r u ∧ narrow .boolean (.int r) = .int r) (Bd E lay L A) A) args s 0 0 A) (F0 m 131 ls [])) (σ : St) (v2 : Int32) (v3 : Int32) (H : Heap) (locs : List Loc) (ls : Array Slot) (hf : fX9_findNearestPair_b125_4 N Q Kh Kx131 σ v2 v3) (hw : Wo E lay L A s σ H locs) (hl : lv_has ls 6 [(0, .ref (lay 9 0)), (1, .ref (lay 2 0)), (2, .int v2), (3, .int v3)]) : W p l e rmX9_findNearestPair s m args below meth c H locs 0 0 (MQ below (va_Qi (fun r u => Q r u ∧ narrow .boolean (.int r) = .int r) (Bd E lay L A) A) args s 0 0 A) (F0 m 125 ls []) := by
  have hx := C.1
  have hb := C.2.1
  unfold fX9_findNearestPair_b125_4 at hf
  refine lv_iinc (v := (v3 + (1 : Int32))) (lv' := [(3, .int (v3 + (1 : Int32))), (0, .ref (lay 9 0)), (1, .ref (lay 2 0)), (2, .int v2)]) hx hb dX9_findNearestPair_125 hl (k := 3) rfl (by rfl) (by decide) rfl (fun ls hl => ?_)
  refine lv_goto (tgt := 4) hx hb dX9_findNearestPair_128 (by decide) ?_
  exact hKh σ v2 (v3 + (1 : Int32)) _ _ _ hf hw (lv_sub hl [1, 2, 3, 0] rfl)
set_option maxHeartbeats 4000000 in
set_option maxRecDepth 100000 in
theorem eX9_findNearestPair_l4 {p : Program} {l : Launch} {e : Env} {s : State} {m : MethodId} {args : Array Value} {below : List Frame} {meth : Method} {c : Code} {E : EC} {lay : Nat → Nat → Nat} {L : List (Nat × Nat)} {A : Nat → Prop} (C : Cx p s m args c meth yX9_findNearestPair.cls cX9_findNearestPair 6 E A) (hret : meth.sig.returnType = some .boolean) {N : Nat} {Q : Int32 → St → Prop} {Kx131 : St → Int32 → Prop} (hm0 : (9, 0) ∈ L) (hm1 : (2, 0) ∈ L) (hK131 : ∀ (σ : St) (w2 : Int32) (H : Heap) (locs : List Loc) (ls : Array Slot), Kx131 σ w2 → Wo E lay L A s σ H locs → lv_has ls 6 [(2, .int w2)] → W p l e rmX9_findNearestPair s m args below meth c H locs 0 0 (MQ below (va_Qi (fun r u => Q r u ∧ narrow .boolean (.int r) = .int r) (Bd E lay L A) A) args s 0 0 A) (F0 m 131 ls [])) : ∀ (n : Nat) (σ : St) (v2 : Int32) (v3 : Int32) (H : Heap) (locs : List Loc) (ls : Array Slot), fX9_findNearestPair_l4 N Q Kx131 n σ v2 v3 → Wo E lay L A s σ H locs → lv_has ls 6 [(0, .ref (lay 9 0)), (1, .ref (lay 2 0)), (2, .int v2), (3, .int v3)] → W p l e rmX9_findNearestPair s m args below meth c H locs 0 0 (MQ below (va_Qi (fun r u => Q r u ∧ narrow .boolean (.int r) = .int r) (Bd E lay L A) A) args s 0 0 A) (F0 m 4 ls []) := by
  have hx := C.1
  have hb := C.2.1
  intro n
  induction n with
  | zero => intro σ v2 v3 H locs ls hf; exact hf.elim
  | succ n ih =>
    intro σ v2 v3 H locs ls hf hw hl
    rw [fX9_findNearestPair_l4] at hf
    refine lv_iload_n hx hb dX9_findNearestPair_4 rfl (lv_at hl 3 rfl) ?_
    refine lv_bipush (v := 14) hx hb dX9_findNearestPair_5 (by decide) ?_
    refine lv_icmp_ge (tgt := 131) hx hb dX9_findNearestPair_7 (by decide) (fun c1 => ?_) (fun c1 => ?_)
    · replace hf := hf.1 c1
      exact hK131 σ v2 _ _ _ hf hw (lv_sub hl [2] rfl)
    · replace hf := hf.2 c1
      refine lv_iload_n hx hb dX9_findNearestPair_10 rfl (lv_at hl 3 rfl) ?_
      refine lv_iconst (v := 1) hx hb dX9_findNearestPair_11 (by decide) ?_
      refine lv_iadd hx hb dX9_findNearestPair_12 ?_
      refine lv_istore (lv' := [(4, .int (v3 + (1 : Int32))), (0, .ref (lay 9 0)), (1, .ref (lay 2 0)), (2, .int v2), (3, .int v3)]) hx hb dX9_findNearestPair_13 hl (by decide) rfl (fun ls hl => ?_)
      refine eX9_findNearestPair_l15 C hret hm0 hm1 ?_ N σ v2 v3 (v3 + (1 : Int32)) _ _ _ hf hw (lv_sub hl [1, 2, 3, 4, 0] rfl)
      · intro σ26 u125_2 u125_3 H locs ls hf hw hl
        exact eX9_findNearestPair_b125_4 C hret hm0 hm1 ih hK131 σ26 u125_2 u125_3 _ _ _ hf hw (lv_sub hl [0, 1, 2, 3] rfl)
def fX9_findNearestPair (N : Nat) (σ : St) (Q : Int32 → St → Prop) : Prop := fX9_findNearestPair_l4 N Q (fun (σ27 : St) (u131_2 : Int32) => (narrow .boolean (.int u131_2) = .int u131_2 ∧ Q u131_2 σ27)) N σ (0 : Int32) (0 : Int32)
set_option maxHeartbeats 4000000 in
set_option maxRecDepth 100000 in
theorem eX9_findNearestPair {l : Launch} {E : EC} {lay : Nat → Nat → Nat} {L : List (Nat × Nat)} {A : Nat → Prop} {N : Nat} {σ : St} {Q : Int32 → St → Prop} (hf : fX9_findNearestPair N σ Q) (hm0 : (9, 0) ∈ L) (hm1 : (2, 0) ∈ L) : Met l yX9_findNearestPair (.code yX9_findNearestPair cX9_findNearestPair 6 (some .boolean) :: big) rmX9_findNearestPair (va_Pc [.ref (lay 9 0), .ref (lay 2 0)] (Bp E lay L A σ)) (va_Qi (fun r u => Q r u ∧ narrow .boolean (.int r) = .int r) (Bd E lay L A) A) 0 0 A := by
  refine x_met (by decide +kernel) (Nat.le_of_ble_eq_true rfl) ?_
  intro p e s m args below meth c ls C hret hw hl
  have hx := C.1
  have hb := C.2.1
  have hl : lv_has ls 6 [(0, .ref (lay 9 0)), (1, .ref (lay 2 0))] := hl
  unfold fX9_findNearestPair at hf
  refine lv_iconst (v := 0) hx hb dX9_findNearestPair_0 (by decide) ?_
  refine lv_istore_n (lv' := [(2, .int (0 : Int32)), (0, .ref (lay 9 0)), (1, .ref (lay 2 0))]) hx hb dX9_findNearestPair_1 rfl hl (by decide) rfl (fun ls hl => ?_)
  refine lv_iconst (v := 0) hx hb dX9_findNearestPair_2 (by decide) ?_
  refine lv_istore_n (lv' := [(3, .int (0 : Int32)), (2, .int (0 : Int32)), (0, .ref (lay 9 0)), (1, .ref (lay 2 0))]) hx hb dX9_findNearestPair_3 rfl hl (by decide) rfl (fun ls hl => ?_)
  refine eX9_findNearestPair_l4 C hret hm0 hm1 ?_ N σ (0 : Int32) (0 : Int32) _ _ _ hf hw (lv_sub hl [2, 3, 1, 0] rfl)
  · intro σ27 u131_2 H locs ls hf hw hl
    refine lv_iload_n hx hb dX9_findNearestPair_131 rfl (lv_at hl 0 rfl) ?_
    exact x_zret C hret hf.1 hw ⟨hf.2, hf.1⟩ dX9_findNearestPair_132
-- X9_joinPair
abbrev rmX9_joinPair : Room := { frames := 3, cells := 0, slots := 0, locals := 67 }
def fX9_joinPair (N : Nat) (σ : St) (Q : St → Prop) : Prop := (vp_in (sF σ 9 0 6) 14 ∧ (vp_in (sF σ 9 0 6) 14 ∧ (vp_in (sA σ 42 0 ((sF σ 9 0 6)).toNatClampNeg) 14 ∧ (vp_in (sA σ 43 0 ((sF σ 9 0 6)).toNatClampNeg) 14 ∧ (∃ i7, (sR σ 39 0 ((sA σ 42 0 ((sF σ 9 0 6)).toNatClampNeg)).toNatClampNeg) = some i7 ∧ (∃ i9, (sR σ 39 0 ((sA σ 43 0 ((sF σ 9 0 6)).toNatClampNeg)).toNatClampNeg) = some i9 ∧ fX7_add N σ i7 i9 (fun (σ11 : St) => (vp_in (sA σ 42 0 ((sF σ 9 0 6)).toNatClampNeg) 14 ∧ (vp_in (sA σ 42 0 ((sF σ 9 0 6)).toNatClampNeg) 14 ∧ (∃ i16, (sR σ11 39 0 ((sA σ 42 0 ((sF σ 9 0 6)).toNatClampNeg)).toNatClampNeg) = some i16 ∧ (∃ i18, (sR σ11 40 0 ((sA σ 42 0 ((sF σ 9 0 6)).toNatClampNeg)).toNatClampNeg) = some i18 ∧ fX2_readRates N σ11 i16 i18 (fun (σ20 : St) => (vp_in (sA σ 43 0 ((sF σ 9 0 6)).toNatClampNeg) 14 ∧ ∀ σ22 : St, σ22 = setA σ20 41 0 ((sA σ 43 0 ((sF σ 9 0 6)).toNatClampNeg)).toNatClampNeg (vp_nar .boolean (0 : Int32)) → ∀ σ23 : St, σ23 = setF σ22 9 0 6 ((sF σ22 9 0 6) + (1 : Int32)) → Q σ23)))))))))))))
set_option maxHeartbeats 4000000 in
set_option maxRecDepth 100000 in
theorem eX9_joinPair {l : Launch} {E : EC} {lay : Nat → Nat → Nat} {L : List (Nat × Nat)} {A : Nat → Prop} {N : Nat} {σ : St} {Q : St → Prop} (hf : fX9_joinPair N σ Q) (hm0 : (9, 0) ∈ L) (hm1 : (2, 0) ∈ L) : Met l yX9_joinPair (.code yX9_joinPair cX9_joinPair 4 (none) :: big) rmX9_joinPair (va_Pc [.ref (lay 9 0), .ref (lay 2 0)] (Bp E lay L A σ)) (va_Qv Q (Bd E lay L A) A) 0 0 A := by
  refine x_met (by decide +kernel) (Nat.le_of_ble_eq_true rfl) ?_
  intro p e s m args below meth c ls C hret hw hl
  have hx := C.1
  have hb := C.2.1
  have hl : lv_has ls 4 [(0, .ref (lay 9 0)), (1, .ref (lay 2 0))] := hl
  unfold fX9_joinPair at hf
  refine lv_aload_n hx hb dX9_joinPair_0 rfl (lv_at hl 0 rfl) ?_
  have hm_1 : (42, 0) ∈ L := hw.2.2.2.1 9 0 hm0 3 (by decide) (by decide) rfl
  refine x_get (v := .ref (lay 42 0)) (j := 3) C hw hm0 rfl (by decide) (by decide) rfl q178 dX9_joinPair_1 ?_
  refine lv_aload_n hx hb dX9_joinPair_4 rfl (lv_at hl 0 rfl) ?_
  refine x_get (v := .int (sF σ 9 0 6)) (j := 6) C hw hm0 rfl (by decide) (by decide) rfl q181 dX9_joinPair_5 ?_
  refine x_iald C hw hm_1 (by decide) rfl hf.1 dX9_joinPair_8 ?_
  replace hf := hf.2
  refine lv_istore_n (lv' := [(2, .int (sA σ 42 0 ((sF σ 9 0 6)).toNatClampNeg)), (0, .ref (lay 9 0)), (1, .ref (lay 2 0))]) hx hb dX9_joinPair_9 rfl hl (by decide) rfl (fun ls hl => ?_)
  refine lv_aload_n hx hb dX9_joinPair_10 rfl (lv_at hl 1 rfl) ?_
  have hm_2 : (43, 0) ∈ L := hw.2.2.2.1 9 0 hm0 4 (by decide) (by decide) rfl
  refine x_get (v := .ref (lay 43 0)) (j := 4) C hw hm0 rfl (by decide) (by decide) rfl q179 dX9_joinPair_11 ?_
  refine lv_aload_n hx hb dX9_joinPair_14 rfl (lv_at hl 1 rfl) ?_
  refine x_get (v := .int (sF σ 9 0 6)) (j := 6) C hw hm0 rfl (by decide) (by decide) rfl q181 dX9_joinPair_15 ?_
  refine x_iald C hw hm_2 (by decide) rfl hf.1 dX9_joinPair_18 ?_
  replace hf := hf.2
  refine lv_istore_n (lv' := [(3, .int (sA σ 43 0 ((sF σ 9 0 6)).toNatClampNeg)), (2, .int (sA σ 42 0 ((sF σ 9 0 6)).toNatClampNeg)), (0, .ref (lay 9 0)), (1, .ref (lay 2 0))]) hx hb dX9_joinPair_19 rfl hl (by decide) rfl (fun ls hl => ?_)
  refine lv_aload_n hx hb dX9_joinPair_20 rfl (lv_at hl 2 rfl) ?_
  have hm_3 : (39, 0) ∈ L := hw.2.2.2.1 9 0 hm0 0 (by decide) (by decide) rfl
  refine x_get (v := .ref (lay 39 0)) (j := 0) C hw hm0 rfl (by decide) (by decide) rfl q175 dX9_joinPair_21 ?_
  refine lv_iload_n hx hb dX9_joinPair_24 rfl (lv_at hl 1 rfl) ?_
  have hO_4 : ∀ i, (sR σ 39 0 ((sA σ 42 0 ((sF σ 9 0 6)).toNatClampNeg)).toNatClampNeg) = some i → (7, i) ∈ L := fun i h => hw.2.2.2.2 39 _ _ i h
  refine x_aald (t := 7) (T := 7) C hw hm_3 (by decide) rfl (by decide) rfl hf.1 rfl dX9_joinPair_25 ?_
  replace hf := hf.2
  refine lv_aload_n hx hb dX9_joinPair_26 rfl (lv_at hl 2 rfl) ?_
  have hm_5 : (39, 0) ∈ L := hw.2.2.2.1 9 0 hm0 0 (by decide) (by decide) rfl
  refine x_get (v := .ref (lay 39 0)) (j := 0) C hw hm0 rfl (by decide) (by decide) rfl q175 dX9_joinPair_27 ?_
  refine lv_iload_n hx hb dX9_joinPair_30 rfl (lv_at hl 0 rfl) ?_
  have hO_6 : ∀ i, (sR σ 39 0 ((sA σ 43 0 ((sF σ 9 0 6)).toNatClampNeg)).toNatClampNeg) = some i → (7, i) ∈ L := fun i h => hw.2.2.2.2 39 _ _ i h
  refine x_aald (t := 7) (T := 7) C hw hm_5 (by decide) rfl (by decide) rfl hf.1 rfl dX9_joinPair_31 ?_
  replace hf := hf.2
  obtain ⟨i7, eni7, hf⟩ := hf
  have hn_8 := hO_4 i7 eni7
  rw [show rf lay 7 (sR σ 39 0 ((sA σ 42 0 ((sF σ 9 0 6)).toNatClampNeg)).toNatClampNeg) = .ref (lay 7 i7) from by rw [eni7]; rfl]
  obtain ⟨i9, eni9, hf⟩ := hf
  have hn_10 := hO_6 i9 eni9
  rw [show rf lay 7 (sR σ 39 0 ((sA σ 43 0 ((sF σ 9 0 6)).toNatClampNeg)).toNatClampNeg) = .ref (lay 7 i9) from by rw [eni9]; rfl]
  refine x_runv hw (x_V (n := 1) (rest := []) C hw hn_8 (by decide) (eX7_add hf hn_8 hn_10) q777 q625 q626 q47 q627 rfl rfl (by decide +kernel) ⟨Nat.le_of_ble_eq_true rfl, Nat.le_of_ble_eq_true rfl⟩ rfl hl.1 rfl (Nat.le_of_ble_eq_true rfl) dX9_joinPair_32) (fun σ11 H locs hf hw => ?_)
  try dsimp only at hf
  refine lv_aload_n hx hb dX9_joinPair_35 rfl (lv_at hl 3 rfl) ?_
  refine lv_aload_n hx hb dX9_joinPair_36 rfl (lv_at hl 2 rfl) ?_
  have hm_12 : (39, 0) ∈ L := hw.2.2.2.1 9 0 hm0 0 (by decide) (by decide) rfl
  refine x_get (v := .ref (lay 39 0)) (j := 0) C hw hm0 rfl (by decide) (by decide) rfl q175 dX9_joinPair_37 ?_
  refine lv_iload_n hx hb dX9_joinPair_40 rfl (lv_at hl 1 rfl) ?_
  have hO_13 : ∀ i, (sR σ11 39 0 ((sA σ 42 0 ((sF σ 9 0 6)).toNatClampNeg)).toNatClampNeg) = some i → (7, i) ∈ L := fun i h => hw.2.2.2.2 39 _ _ i h
  refine x_aald (t := 7) (T := 7) C hw hm_12 (by decide) rfl (by decide) rfl hf.1 rfl dX9_joinPair_41 ?_
  replace hf := hf.2
  refine lv_aload_n hx hb dX9_joinPair_42 rfl (lv_at hl 2 rfl) ?_
  have hm_14 : (40, 0) ∈ L := hw.2.2.2.1 9 0 hm0 1 (by decide) (by decide) rfl
  refine x_get (v := .ref (lay 40 0)) (j := 1) C hw hm0 rfl (by decide) (by decide) rfl q176 dX9_joinPair_43 ?_
  refine lv_iload_n hx hb dX9_joinPair_46 rfl (lv_at hl 1 rfl) ?_
  have hO_15 : ∀ i, (sR σ11 40 0 ((sA σ 42 0 ((sF σ 9 0 6)).toNatClampNeg)).toNatClampNeg) = some i → (23, i) ∈ L := fun i h => hw.2.2.2.2 40 _ _ i h
  refine x_aaldA (T := 23) C hw hm_14 (by decide) rfl hf.1 rfl dX9_joinPair_47 ?_
  replace hf := hf.2
  obtain ⟨i16, eni16, hf⟩ := hf
  have hn_17 := hO_13 i16 eni16
  rw [show rf lay 7 (sR σ11 39 0 ((sA σ 42 0 ((sF σ 9 0 6)).toNatClampNeg)).toNatClampNeg) = .ref (lay 7 i16) from by rw [eni16]; rfl]
  obtain ⟨i18, eni18, hf⟩ := hf
  have hn_19 := hO_15 i18 eni18
  rw [show rf lay 23 (sR σ11 40 0 ((sA σ 42 0 ((sF σ 9 0 6)).toNatClampNeg)).toNatClampNeg) = .ref (lay 23 i18) from by rw [eni18]; rfl]
  refine x_runv hw (x_V (n := 2) (rest := []) C hw hm1 (by decide) (eX2_readRates hf hm1 hn_17 hn_19) q778 q629 q630 q45 q631 rfl rfl (by decide +kernel) ⟨Nat.le_of_ble_eq_true rfl, Nat.le_of_ble_eq_true rfl⟩ rfl hl.1 rfl (Nat.le_of_ble_eq_true rfl) dX9_joinPair_48) (fun σ20 H locs hf hw => ?_)
  try dsimp only at hf
  refine lv_aload_n hx hb dX9_joinPair_51 rfl (lv_at hl 2 rfl) ?_
  have hm_21 : (41, 0) ∈ L := hw.2.2.2.1 9 0 hm0 2 (by decide) (by decide) rfl
  refine x_get (v := .ref (lay 41 0)) (j := 2) C hw hm0 rfl (by decide) (by decide) rfl q177 dX9_joinPair_52 ?_
  refine lv_iload_n hx hb dX9_joinPair_55 rfl (lv_at hl 0 rfl) ?_
  refine lv_iconst (v := 0) hx hb dX9_joinPair_56 (by decide) ?_
  refine x_zast C hw hm_21 (by decide) rfl hf.1 dX9_joinPair_57 (fun σ22 H locs eσ22 hw => ?_)
  replace hf := hf.2 σ22 eσ22
  refine lv_aload_n hx hb dX9_joinPair_58 rfl (lv_at hl 2 rfl) ?_
  refine lv_dup hx hb dX9_joinPair_59 rfl ?_
  refine x_get (v := .int (sF σ22 9 0 6)) (j := 6) C hw hm0 rfl (by decide) (by decide) rfl q181 dX9_joinPair_60 ?_
  refine lv_iconst (v := 1) hx hb dX9_joinPair_63 (by decide) ?_
  refine lv_iadd hx hb dX9_joinPair_64 ?_
  refine x_putI (j := 6) (ty := .int) C hw hm0 rfl (by decide) (by decide) rfl rfl (by decide +kernel) rfl rfl q181 dX9_joinPair_65 (fun σ23 H locs eσ23 hw => ?_)
  replace hf := hf σ23 eσ23
  exact x_vret C hret hw hf dX9_joinPair_68
-- X9_grow
abbrev rmX9_grow : Room := { frames := 4, cells := 0, slots := 0, locals := 90 }
def fX9_grow_l2 (N : Nat) (Q : Int32 → St → Prop) (Kx29 : St → Prop) : Nat → St → Int32 → Prop
  | 0, _, _ => False
  | n + 1, σ, v3 => (((14 : Int32) ≤ v3 → Kx29 σ) ∧ (¬ (14 : Int32) ≤ v3 → (((14 : Int32) ≤ v3 → Kx29 σ) ∧ (¬ (14 : Int32) ≤ v3 → (vp_in v3 14 ∧ fX9_begin N σ v3 (sR σ 21 0 (v3).toNatClampNeg) (fun (σ4 : St) => fX9_grow_l2 N Q Kx29 n σ4 (v3 + (1 : Int32))))))))
def fX9_grow_b55_36 (N : Nat) (Q : Int32 → St → Prop) (Kh : St → Int32 → Prop) (Kx61 : St → Prop) (σ : St) (v3 : Int32) : Prop := Kh σ (v3 + (1 : Int32))
def fX9_grow_l36 (N : Nat) (Q : Int32 → St → Prop) (Kx61 : St → Prop) : Nat → St → Int32 → Prop
  | 0, _, _ => False
  | n + 1, σ, v3 => (((14 : Int32) ≤ v3 → Kx61 σ) ∧ (¬ (14 : Int32) ≤ v3 → fX9_findNearestPair N σ (fun (r9 : Int32) (σ8 : St) => ((r9 = 0 → fX9_grow_b55_36 N Q (fun (σ : St) (w3 : Int32) => fX9_grow_l36 N Q Kx61 n σ w3) Kx61 σ8 v3) ∧ (¬ r9 = 0 → fX9_joinPair N σ8 (fun (σ11 : St) => fX9_grow_b55_36 N Q (fun (σ : St) (w3 : Int32) => fX9_grow_l36 N Q Kx61 n σ w3) Kx61 σ11 v3))))))
def fX9_grow_b29 (N : Nat) (Q : Int32 → St → Prop) (σ : St) : Prop := ∀ σ6 : St, σ6 = setF σ 9 0 6 (0 : Int32) → fX9_grow_l36 N Q (fun (σ12 : St) => Q (sF σ12 9 0 6) σ12) N σ6 (1 : Int32)
set_option maxHeartbeats 4000000 in
set_option maxRecDepth 100000 in
theorem eX9_grow_l2 {p : Program} {l : Launch} {e : Env} {s : State} {m : MethodId} {args : Array Value} {below : List Frame} {meth : Method} {c : Code} {E : EC} {lay : Nat → Nat → Nat} {L : List (Nat × Nat)} {A : Nat → Prop} (C : Cx p s m args c meth yX9_grow.cls cX9_grow 4 E A) (hret : meth.sig.returnType = some .int) {N : Nat} {Q : Int32 → St → Prop} {Kx29 : St → Prop} (hm0 : (9, 0) ∈ L) (hm1 : (21, 0) ∈ L) (hm2 : (2, 0) ∈ L) (hK29 : ∀ (σ : St) (H : Heap) (locs : List Loc) (ls : Array Slot), Kx29 σ → Wo E lay L A s σ H locs → lv_has ls 4 [(0, .ref (lay 9 0)), (2, .ref (lay 2 0))] → W p l e rmX9_grow s m args below meth c H locs 0 0 (MQ below (va_Qi Q (Bd E lay L A) A) args s 0 0 A) (F0 m 29 ls [])) : ∀ (n : Nat) (σ : St) (v3 : Int32) (H : Heap) (locs : List Loc) (ls : Array Slot), fX9_grow_l2 N Q Kx29 n σ v3 → Wo E lay L A s σ H locs → lv_has ls 4 [(0, .ref (lay 9 0)), (1, .ref (lay 21 0)), (2, .ref (lay 2 0)), (3, .int v3)] → W p l e rmX9_grow s m args below meth c H locs 0 0 (MQ below (va_Qi Q (Bd E lay L A) A) args s 0 0 A) (F0 m 2 ls []) := by
  have hx := C.1
  have hb := C.2.1
  intro n
  induction n with
  | zero => intro σ v3 H locs ls hf; exact hf.elim
  | succ n ih =>
    intro σ v3 H locs ls hf hw hl
    rw [fX9_grow_l2] at hf
    refine lv_iload_n hx hb dX9_grow_2 rfl (lv_at hl 3 rfl) ?_
    refine lv_bipush (v := 14) hx hb dX9_grow_3 (by decide) ?_
    refine lv_icmp_ge (tgt := 29) hx hb dX9_grow_5 (by decide) (fun c1 => ?_) (fun c1 => ?_)
    · replace hf := hf.1 c1
      exact hK29 σ _ _ _ hf hw (lv_sub hl [0, 2] rfl)
    · replace hf := hf.2 c1
      refine lv_iload_n hx hb dX9_grow_8 rfl (lv_at hl 3 rfl) ?_
      refine lv_aload_n hx hb dX9_grow_9 rfl (lv_at hl 1 rfl) ?_
      refine x_alen (v := 14) C hw hm1 (by decide) (by decide) (by decide) dX9_grow_10 ?_
      refine lv_icmp_ge (tgt := 29) hx hb dX9_grow_11 (by decide) (fun c2 => ?_) (fun c2 => ?_)
      · replace hf := hf.1 c2
        exact hK29 σ _ _ _ hf hw (lv_sub hl [0, 2] rfl)
      · replace hf := hf.2 c2
        refine lv_aload_n hx hb dX9_grow_14 rfl (lv_at hl 0 rfl) ?_
        refine lv_iload_n hx hb dX9_grow_15 rfl (lv_at hl 3 rfl) ?_
        refine lv_aload_n hx hb dX9_grow_16 rfl (lv_at hl 1 rfl) ?_
        refine lv_iload_n hx hb dX9_grow_17 rfl (lv_at hl 3 rfl) ?_
        have hO_3 : ∀ i, (sR σ 21 0 (v3).toNatClampNeg) = some i → (8, i) ∈ L := fun i h => hw.2.2.2.2 21 _ _ i h
        refine x_aald (t := 5) (T := 8) C hw hm1 (by decide) rfl (by decide) rfl hf.1 rfl dX9_grow_18 ?_
        replace hf := hf.2
        refine lv_aload_n hx hb dX9_grow_19 rfl (lv_at hl 2 rfl) ?_
        refine x_runv hw (x_V (n := 3) (rest := []) C hw hm0 (by decide) (eX9_begin hf hm0 hO_3 hm2) q772 q774 q12 q49 q775 rfl rfl (by decide +kernel) ⟨Nat.le_of_ble_eq_true rfl, Nat.le_of_ble_eq_true rfl⟩ rfl hl.1 rfl (Nat.le_of_ble_eq_true rfl) dX9_grow_20) (fun σ4 H locs hf hw => ?_)
        try dsimp only at hf
        refine lv_iinc (v := (v3 + (1 : Int32))) (lv' := [(3, .int (v3 + (1 : Int32))), (0, .ref (lay 9 0)), (1, .ref (lay 21 0)), (2, .ref (lay 2 0))]) hx hb dX9_grow_23 hl (k := 3) rfl (by rfl) (by decide) rfl (fun ls hl => ?_)
        refine lv_goto (tgt := 2) hx hb dX9_grow_26 (by decide) ?_
        exact ih σ4 (v3 + (1 : Int32)) _ _ _ hf hw (lv_sub hl [1, 2, 3, 0] rfl)
set_option maxHeartbeats 4000000 in
set_option maxRecDepth 100000 in
theorem eX9_grow_b55_36 {p : Program} {l : Launch} {e : Env} {s : State} {m : MethodId} {args : Array Value} {below : List Frame} {meth : Method} {c : Code} {E : EC} {lay : Nat → Nat → Nat} {L : List (Nat × Nat)} {A : Nat → Prop} (C : Cx p s m args c meth yX9_grow.cls cX9_grow 4 E A) (hret : meth.sig.returnType = some .int) {N : Nat} {Q : Int32 → St → Prop} {Kh : St → Int32 → Prop} {Kx61 : St → Prop} (hm0 : (9, 0) ∈ L) (hm1 : (21, 0) ∈ L) (hm2 : (2, 0) ∈ L) (hKh : ∀ (σ : St) (w3 : Int32) (H : Heap) (locs : List Loc) (ls : Array Slot), Kh σ w3 → Wo E lay L A s σ H locs → lv_has ls 4 [(0, .ref (lay 9 0)), (2, .ref (lay 2 0)), (3, .int w3)] → W p l e rmX9_grow s m args below meth c H locs 0 0 (MQ below (va_Qi Q (Bd E lay L A) A) args s 0 0 A) (F0 m 36 ls [])) (hK61 : ∀ (σ : St) (H : Heap) (locs : List Loc) (ls : Array Slot), Kx61 σ → Wo E lay L A s σ H locs → lv_has ls 4 [(0, .ref (lay 9 0))] → W p l e rmX9_grow s m args below meth c H locs 0 0 (MQ below (va_Qi Q (Bd E lay L A) A) args s 0 0 A) (F0 m 61 ls [])) (σ : St) (v3 : Int32) (H : Heap) (locs : List Loc) (ls : Array Slot) (hf : fX9_grow_b55_36 N Q Kh Kx61 σ v3) (hw : Wo E lay L A s σ H locs) (hl : lv_has ls 4 [(0, .ref (lay 9 0)), (2, .ref (lay 2 0)), (3, .int v3)]) : W p l e rmX9_grow s m args below meth c H locs 0 0 (MQ below (va_Qi Q (Bd E lay L A) A) args s 0 0 A) (F0 m 55 ls []) := by
  have hx := C.1
  have hb := C.2.1
  unfold fX9_grow_b55_36 at hf
  refine lv_iinc (v := (v3 + (1 : Int32))) (lv' := [(3, .int (v3 + (1 : Int32))), (0, .ref (lay 9 0)), (2, .ref (lay 2 0))]) hx hb dX9_grow_55 hl (k := 2) rfl (by rfl) (by decide) rfl (fun ls hl => ?_)
  refine lv_goto (tgt := 36) hx hb dX9_grow_58 (by decide) ?_
  exact hKh σ (v3 + (1 : Int32)) _ _ _ hf hw (lv_sub hl [1, 2, 0] rfl)
set_option maxHeartbeats 4000000 in
set_option maxRecDepth 100000 in
theorem eX9_grow_l36 {p : Program} {l : Launch} {e : Env} {s : State} {m : MethodId} {args : Array Value} {below : List Frame} {meth : Method} {c : Code} {E : EC} {lay : Nat → Nat → Nat} {L : List (Nat × Nat)} {A : Nat → Prop} (C : Cx p s m args c meth yX9_grow.cls cX9_grow 4 E A) (hret : meth.sig.returnType = some .int) {N : Nat} {Q : Int32 → St → Prop} {Kx61 : St → Prop} (hm0 : (9, 0) ∈ L) (hm1 : (21, 0) ∈ L) (hm2 : (2, 0) ∈ L) (hK61 : ∀ (σ : St) (H : Heap) (locs : List Loc) (ls : Array Slot), Kx61 σ → Wo E lay L A s σ H locs → lv_has ls 4 [(0, .ref (lay 9 0))] → W p l e rmX9_grow s m args below meth c H locs 0 0 (MQ below (va_Qi Q (Bd E lay L A) A) args s 0 0 A) (F0 m 61 ls [])) : ∀ (n : Nat) (σ : St) (v3 : Int32) (H : Heap) (locs : List Loc) (ls : Array Slot), fX9_grow_l36 N Q Kx61 n σ v3 → Wo E lay L A s σ H locs → lv_has ls 4 [(0, .ref (lay 9 0)), (2, .ref (lay 2 0)), (3, .int v3)] → W p l e rmX9_grow s m args below meth c H locs 0 0 (MQ below (va_Qi Q (Bd E lay L A) A) args s 0 0 A) (F0 m 36 ls []) := by
  have hx := C.1
  have hb := C.2.1
  intro n
  induction n with
  | zero => intro σ v3 H locs ls hf; exact hf.elim
  | succ n ih =>
    intro σ v3 H locs ls hf hw hl
    rw [fX9_grow_l36] at hf
    refine lv_iload_n hx hb dX9_grow_36 rfl (lv_at hl 2 rfl) ?_
    refine lv_bipush (v := 14) hx hb dX9_grow_37 (by decide) ?_
    refine lv_icmp_ge (tgt := 61) hx hb dX9_grow_39 (by decide) (fun c7 => ?_) (fun c7 => ?_)
    · replace hf := hf.1 c7
      exact hK61 σ _ _ _ hf hw (lv_sub hl [0] rfl)
    · replace hf := hf.2 c7
      refine lv_aload_n hx hb dX9_grow_42 rfl (lv_at hl 0 rfl) ?_
      refine lv_aload_n hx hb dX9_grow_43 rfl (lv_at hl 1 rfl) ?_
      refine x_runi hw (x_V (n := 1) (rest := []) C hw hm0 (by decide) (eX9_findNearestPair hf hm0 hm2) q779 q781 q13 q49 q782 rfl rfl (by decide +kernel) ⟨Nat.le_of_ble_eq_true rfl, Nat.le_of_ble_eq_true rfl⟩ rfl hl.1 rfl (Nat.le_of_ble_eq_true rfl) dX9_grow_44) (fun r9 σ8 H locs hf hw => ?_)
      have hzr9 := hf.2
      replace hf := hf.1
      try dsimp only at hf
      refine lv_if_eq (tgt := 55) hx hb dX9_grow_47 (by decide) (fun c10 => ?_) (fun c10 => ?_)
      · replace hf := hf.1 c10
        exact eX9_grow_b55_36 C hret hm0 hm1 hm2 ih hK61 σ8 v3 _ _ _ hf hw (lv_sub hl [0, 1, 2] rfl)
      · replace hf := hf.2 c10
        refine lv_aload_n hx hb dX9_grow_50 rfl (lv_at hl 0 rfl) ?_
        refine lv_aload_n hx hb dX9_grow_51 rfl (lv_at hl 1 rfl) ?_
        refine x_runv hw (x_V (n := 1) (rest := []) C hw hm0 (by decide) (eX9_joinPair hf hm0 hm2) q784 q786 q14 q49 q787 rfl rfl (by decide +kernel) ⟨Nat.le_of_ble_eq_true rfl, Nat.le_of_ble_eq_true rfl⟩ rfl hl.1 rfl (Nat.le_of_ble_eq_true rfl) dX9_grow_52) (fun σ11 H locs hf hw => ?_)
        try dsimp only at hf
        exact eX9_grow_b55_36 C hret hm0 hm1 hm2 ih hK61 σ11 v3 _ _ _ hf hw (lv_sub hl [0, 1, 2] rfl)
set_option maxHeartbeats 4000000 in
set_option maxRecDepth 100000 in
theorem eX9_grow_b29 {p : Program} {l : Launch} {e : Env} {s : State} {m : MethodId} {args : Array Value} {below : List Frame} {meth : Method} {c : Code} {E : EC} {lay : Nat → Nat → Nat} {L : List (Nat × Nat)} {A : Nat → Prop} (C : Cx p s m args c meth yX9_grow.cls cX9_grow 4 E A) (hret : meth.sig.returnType = some .int) {N : Nat} {Q : Int32 → St → Prop} (hm0 : (9, 0) ∈ L) (hm1 : (21, 0) ∈ L) (hm2 : (2, 0) ∈ L) (σ : St) (H : Heap) (locs : List Loc) (ls : Array Slot) (hf : fX9_grow_b29 N Q σ) (hw : Wo E lay L A s σ H locs) (hl : lv_has ls 4 [(0, .ref (lay 9 0)), (2, .ref (lay 2 0))]) : W p l e rmX9_grow s m args below meth c H locs 0 0 (MQ below (va_Qi Q (Bd E lay L A) A) args s 0 0 A) (F0 m 29 ls []) := by
  have hx := C.1
  have hb := C.2.1
  unfold fX9_grow_b29 at hf
  refine lv_aload_n hx hb dX9_grow_29 rfl (lv_at hl 0 rfl) ?_
  refine lv_iconst (v := 0) hx hb dX9_grow_30 (by decide) ?_
  refine x_putI (j := 6) (ty := .int) C hw hm0 rfl (by decide) (by decide) rfl rfl (by decide +kernel) rfl rfl q181 dX9_grow_31 (fun σ6 H locs eσ6 hw => ?_)
  replace hf := hf σ6 eσ6
  refine lv_iconst (v := 1) hx hb dX9_grow_34 (by decide) ?_
  refine lv_istore_n (lv' := [(3, .int (1 : Int32)), (0, .ref (lay 9 0)), (2, .ref (lay 2 0))]) hx hb dX9_grow_35 rfl hl (by decide) rfl (fun ls hl => ?_)
  refine eX9_grow_l36 C hret hm0 hm1 hm2 ?_ N σ6 (1 : Int32) _ _ _ hf hw (lv_sub hl [1, 2, 0] rfl)
  · intro σ12 H locs ls hf hw hl
    refine lv_aload_n hx hb dX9_grow_61 rfl (lv_at hl 0 rfl) ?_
    refine x_get (v := .int (sF σ12 9 0 6)) (j := 6) C hw hm0 rfl (by decide) (by decide) rfl q181 dX9_grow_62 ?_
    exact x_iret C hret hw hf dX9_grow_65
def fX9_grow (N : Nat) (σ : St) (Q : Int32 → St → Prop) : Prop := fX9_grow_l2 N Q (fun (σ5 : St) => fX9_grow_b29 N Q σ5) N σ (0 : Int32)
set_option maxHeartbeats 4000000 in
set_option maxRecDepth 100000 in
theorem eX9_grow {l : Launch} {E : EC} {lay : Nat → Nat → Nat} {L : List (Nat × Nat)} {A : Nat → Prop} {N : Nat} {σ : St} {Q : Int32 → St → Prop} (hf : fX9_grow N σ Q) (hm0 : (9, 0) ∈ L) (hm1 : (21, 0) ∈ L) (hm2 : (2, 0) ∈ L) : Met l yX9_grow (.code yX9_grow cX9_grow 4 (some .int) :: big) rmX9_grow (va_Pc [.ref (lay 9 0), .ref (lay 21 0), .ref (lay 2 0)] (Bp E lay L A σ)) (va_Qi Q (Bd E lay L A) A) 0 0 A := by
  refine x_met (by decide +kernel) (Nat.le_of_ble_eq_true rfl) ?_
  intro p e s m args below meth c ls C hret hw hl
  have hx := C.1
  have hb := C.2.1
  have hl : lv_has ls 4 [(0, .ref (lay 9 0)), (1, .ref (lay 21 0)), (2, .ref (lay 2 0))] := hl
  unfold fX9_grow at hf
  refine lv_iconst (v := 0) hx hb dX9_grow_0 (by decide) ?_
  refine lv_istore_n (lv' := [(3, .int (0 : Int32)), (0, .ref (lay 9 0)), (1, .ref (lay 21 0)), (2, .ref (lay 2 0))]) hx hb dX9_grow_1 rfl hl (by decide) rfl (fun ls hl => ?_)
  refine eX9_grow_l2 C hret hm0 hm1 hm2 ?_ N σ (0 : Int32) _ _ _ hf hw (lv_sub hl [1, 2, 3, 0] rfl)
  · intro σ5 H locs ls hf hw hl
    exact eX9_grow_b29 C hret hm0 hm1 hm2 σ5 _ _ _ hf hw (lv_sub hl [0, 1] rfl)
-- X9_tell
abbrev rmX9_tell : Room := { frames := 0, cells := 0, slots := 0, locals := 0 }
def fX9_tell (N : Nat) (σ : St) (a1 : Int32) (a2 : Int32) (Q : Int32 → St → Prop) : Prop := ((a1 < 0 → Q (-9 : Int32) σ) ∧ (¬ a1 < 0 → (((sF σ 9 0 6) ≤ a1 → Q (-9 : Int32) σ) ∧ (¬ (sF σ 9 0 6) ≤ a1 → ((a1 < (14 : Int32) → ((a2 = (0 : Int32) → (vp_in a1 14 ∧ Q (sA σ 42 0 (a1).toNatClampNeg) σ)) ∧ (a2 = (1 : Int32) → (vp_in a1 14 ∧ Q (sA σ 43 0 (a1).toNatClampNeg) σ)) ∧ (¬ a2 = (0 : Int32) → ¬ a2 = (1 : Int32) → (vp_in a1 14 ∧ Q (sA σ 44 0 (a1).toNatClampNeg) σ)))) ∧ (¬ a1 < (14 : Int32) → Q (-9 : Int32) σ))))))
set_option maxHeartbeats 4000000 in
set_option maxRecDepth 100000 in
theorem eX9_tell {l : Launch} {E : EC} {lay : Nat → Nat → Nat} {L : List (Nat × Nat)} {A : Nat → Prop} {N : Nat} {σ : St} {a1 : Int32} {a2 : Int32} {Q : Int32 → St → Prop} (hf : fX9_tell N σ a1 a2 Q) (hm0 : (9, 0) ∈ L) : Met l yX9_tell (.code yX9_tell cX9_tell 3 (some .int) :: big) rmX9_tell (va_Pc [.ref (lay 9 0), .int a1, .int a2] (Bp E lay L A σ)) (va_Qi Q (Bd E lay L A) A) 0 0 A := by
  refine x_met (by decide +kernel) (Nat.le_of_ble_eq_true rfl) ?_
  intro p e s m args below meth c ls C hret hw hl
  have hx := C.1
  have hb := C.2.1
  have hl : lv_has ls 3 [(0, .ref (lay 9 0)), (1, .int a1), (2, .int a2)] := hl
  unfold fX9_tell at hf
  refine lv_iload_n hx hb dX9_tell_0 rfl (lv_at hl 1 rfl) ?_
  refine lv_if_lt (tgt := 18) hx hb dX9_tell_1 (by decide) (fun c1 => ?_) (fun c1 => ?_)
  · replace hf := hf.1 c1
    refine lv_bipush (v := (-9)) hx hb dX9_tell_18 (by decide) ?_
    exact x_iret C hret hw hf dX9_tell_20
  · replace hf := hf.2 c1
    refine lv_iload_n hx hb dX9_tell_4 rfl (lv_at hl 1 rfl) ?_
    refine lv_aload_n hx hb dX9_tell_5 rfl (lv_at hl 0 rfl) ?_
    refine x_get (v := .int (sF σ 9 0 6)) (j := 6) C hw hm0 rfl (by decide) (by decide) rfl q181 dX9_tell_6 ?_
    refine lv_icmp_ge (tgt := 18) hx hb dX9_tell_9 (by decide) (fun c2 => ?_) (fun c2 => ?_)
    · replace hf := hf.1 c2
      refine lv_bipush (v := (-9)) hx hb dX9_tell_18 (by decide) ?_
      exact x_iret C hret hw hf dX9_tell_20
    · replace hf := hf.2 c2
      refine lv_iload_n hx hb dX9_tell_12 rfl (lv_at hl 1 rfl) ?_
      refine lv_bipush (v := 14) hx hb dX9_tell_13 (by decide) ?_
      refine lv_icmp_lt (tgt := 21) hx hb dX9_tell_15 (by decide) (fun c3 => ?_) (fun c3 => ?_)
      · replace hf := hf.1 c3
        refine lv_iload_n hx hb dX9_tell_21 rfl (lv_at hl 2 rfl) ?_
        by_cases c22_0 : a2 = (0 : Int32)
        · replace hf := hf.1 c22_0
          rw [c22_0]
          refine lv_lookup (off := 26) (tgt := 48) hx hb dX9_tell_22 (by decide) (by decide) (by decide) ?_
          refine lv_aload_n hx hb dX9_tell_48 rfl (lv_at hl 0 rfl) ?_
          have hm_4 : (42, 0) ∈ L := hw.2.2.2.1 9 0 hm0 3 (by decide) (by decide) rfl
          refine x_get (v := .ref (lay 42 0)) (j := 3) C hw hm0 rfl (by decide) (by decide) rfl q178 dX9_tell_49 ?_
          refine lv_iload_n hx hb dX9_tell_52 rfl (lv_at hl 1 rfl) ?_
          refine x_iald C hw hm_4 (by decide) rfl hf.1 dX9_tell_53 ?_
          replace hf := hf.2
          exact x_iret C hret hw hf dX9_tell_54
        by_cases c22_1 : a2 = (1 : Int32)
        · replace hf := hf.2.1 c22_1
          rw [c22_1]
          refine lv_lookup (off := 33) (tgt := 55) hx hb dX9_tell_22 (by decide) (by decide) (by decide) ?_
          refine lv_aload_n hx hb dX9_tell_55 rfl (lv_at hl 0 rfl) ?_
          have hm_5 : (43, 0) ∈ L := hw.2.2.2.1 9 0 hm0 4 (by decide) (by decide) rfl
          refine x_get (v := .ref (lay 43 0)) (j := 4) C hw hm0 rfl (by decide) (by decide) rfl q179 dX9_tell_56 ?_
          refine lv_iload_n hx hb dX9_tell_59 rfl (lv_at hl 1 rfl) ?_
          refine x_iald C hw hm_5 (by decide) rfl hf.1 dX9_tell_60 ?_
          replace hf := hf.2
          exact x_iret C hret hw hf dX9_tell_61
        replace hf := hf.2.2 c22_0 c22_1
        refine lv_lookup (off := 40) (tgt := 62) hx hb dX9_tell_22 (by decide) (by show Op.lookupswitch.offset [(0, 26), (1, 33)] 40 a2.toInt = 40; rw [lv_osw (a := 0) c22_0 (by decide), lv_osw (a := 1) c22_1 (by decide)]; rfl) (by decide) ?_
        refine lv_aload_n hx hb dX9_tell_62 rfl (lv_at hl 0 rfl) ?_
        have hm_6 : (44, 0) ∈ L := hw.2.2.2.1 9 0 hm0 5 (by decide) (by decide) rfl
        refine x_get (v := .ref (lay 44 0)) (j := 5) C hw hm0 rfl (by decide) (by decide) rfl q180 dX9_tell_63 ?_
        refine lv_iload_n hx hb dX9_tell_66 rfl (lv_at hl 1 rfl) ?_
        refine x_iald C hw hm_6 (by decide) rfl hf.1 dX9_tell_67 ?_
        replace hf := hf.2
        exact x_iret C hret hw hf dX9_tell_68
      · replace hf := hf.2 c3
        refine lv_bipush (v := (-9)) hx hb dX9_tell_18 (by decide) ?_
        exact x_iret C hret hw hf dX9_tell_20
-- X10_sheetAt
abbrev rmX10_sheetAt : Room := { frames := 0, cells := 0, slots := 0, locals := 0 }
def fX10_sheetAt_b22 (N : Nat) (a1 : Int32) (Q : Option Nat → St → Prop) (σ : St) : Prop := Q none σ
set_option maxHeartbeats 4000000 in
set_option maxRecDepth 100000 in
theorem eX10_sheetAt_b22 {p : Program} {l : Launch} {e : Env} {s : State} {m : MethodId} {args : Array Value} {below : List Frame} {meth : Method} {c : Code} {E : EC} {lay : Nat → Nat → Nat} {L : List (Nat × Nat)} {A : Nat → Prop} (C : Cx p s m args c meth yX10_sheetAt.cls cX10_sheetAt 2 E A) (hret : meth.sig.returnType = some (.object "WhoseHand$Sheet")) {N : Nat} {a1 : Int32} {Q : Option Nat → St → Prop} (hm0 : (10, 0) ∈ L) (σ : St) (H : Heap) (locs : List Loc) (ls : Array Slot) (hf : fX10_sheetAt_b22 N a1 Q σ) (hw : Wo E lay L A s σ H locs) (hl : lv_has ls 2 []) : W p l e rmX10_sheetAt s m args below meth c H locs 0 0 (MQ below (va_Qq (Qo lay L 5 Q) (Bd E lay L A) A) args s 0 0 A) (F0 m 22 ls []) := by
  have hx := C.1
  have hb := C.2.1
  unfold fX10_sheetAt_b22 at hf
  refine lv_null hx hb dX10_sheetAt_22 ?_
  exact x_aret (K := 5) (r := none) C hret hw rfl (fun i h => by cases h) hf dX10_sheetAt_23
def fX10_sheetAt (N : Nat) (σ : St) (a1 : Int32) (Q : Option Nat → St → Prop) : Prop := ((a1 < 0 → fX10_sheetAt_b22 N a1 Q σ) ∧ (¬ a1 < 0 → (((4 : Int32) ≤ a1 → fX10_sheetAt_b22 N a1 Q σ) ∧ (¬ (4 : Int32) ≤ a1 → (vp_in a1 4 ∧ Q (sR σ 20 0 (a1).toNatClampNeg) σ)))))
set_option maxHeartbeats 4000000 in
set_option maxRecDepth 100000 in
theorem eX10_sheetAt {l : Launch} {E : EC} {lay : Nat → Nat → Nat} {L : List (Nat × Nat)} {A : Nat → Prop} {N : Nat} {σ : St} {a1 : Int32} {Q : Option Nat → St → Prop} (hf : fX10_sheetAt N σ a1 Q) (hm0 : (10, 0) ∈ L) : Met l yX10_sheetAt (.code yX10_sheetAt cX10_sheetAt 2 (some (.object "WhoseHand$Sheet")) :: big) rmX10_sheetAt (va_Pc [.ref (lay 10 0), .int a1] (Bp E lay L A σ)) (va_Qq (Qo lay L 5 Q) (Bd E lay L A) A) 0 0 A := by
  refine x_met (by decide +kernel) (Nat.le_of_ble_eq_true rfl) ?_
  intro p e s m args below meth c ls C hret hw hl
  have hx := C.1
  have hb := C.2.1
  have hl : lv_has ls 2 [(0, .ref (lay 10 0)), (1, .int a1)] := hl
  unfold fX10_sheetAt at hf
  refine lv_iload_n hx hb dX10_sheetAt_0 rfl (lv_at hl 1 rfl) ?_
  refine lv_if_lt (tgt := 22) hx hb dX10_sheetAt_1 (by decide) (fun c1 => ?_) (fun c1 => ?_)
  · replace hf := hf.1 c1
    exact eX10_sheetAt_b22 C hret hm0 σ _ _ _ hf hw (lv_sub hl [] rfl)
  · replace hf := hf.2 c1
    refine lv_iload_n hx hb dX10_sheetAt_4 rfl (lv_at hl 1 rfl) ?_
    refine lv_aload_n hx hb dX10_sheetAt_5 rfl (lv_at hl 0 rfl) ?_
    have hm_2 : (20, 0) ∈ L := hw.2.2.2.1 10 0 hm0 0 (by decide) (by decide) rfl
    refine x_get (v := .ref (lay 20 0)) (j := 0) C hw hm0 rfl (by decide) (by decide) rfl q289 dX10_sheetAt_6 ?_
    refine x_alen (v := 4) C hw hm_2 (by decide) (by decide) (by decide) dX10_sheetAt_9 ?_
    refine lv_icmp_ge (tgt := 22) hx hb dX10_sheetAt_10 (by decide) (fun c3 => ?_) (fun c3 => ?_)
    · replace hf := hf.1 c3
      exact eX10_sheetAt_b22 C hret hm0 σ _ _ _ hf hw (lv_sub hl [] rfl)
    · replace hf := hf.2 c3
      refine lv_aload_n hx hb dX10_sheetAt_13 rfl (lv_at hl 0 rfl) ?_
      have hm_4 : (20, 0) ∈ L := hw.2.2.2.1 10 0 hm0 0 (by decide) (by decide) rfl
      refine x_get (v := .ref (lay 20 0)) (j := 0) C hw hm0 rfl (by decide) (by decide) rfl q289 dX10_sheetAt_14 ?_
      refine lv_iload_n hx hb dX10_sheetAt_17 rfl (lv_at hl 1 rfl) ?_
      have hO_5 : ∀ i, (sR σ 20 0 (a1).toNatClampNeg) = some i → (5, i) ∈ L := fun i h => hw.2.2.2.2 20 _ _ i h
      refine x_aald (t := 4) (T := 5) C hw hm_4 (by decide) rfl (by decide) rfl hf.1 rfl dX10_sheetAt_18 ?_
      replace hf := hf.2
      refine lv_goto (tgt := 23) hx hb dX10_sheetAt_19 (by decide) ?_
      exact x_aret (K := 5) (r := (sR σ 20 0 (a1).toNatClampNeg)) C hret hw rfl hO_5 hf dX10_sheetAt_23
-- X10_found
abbrev rmX10_found : Room := { frames := 0, cells := 0, slots := 0, locals := 0 }
def fX10_found (N : Nat) (σ : St) (a1 : Int32) (Q : Int32 → St → Prop) : Prop := ((a1 < (1 : Int32) → Q (-3 : Int32) σ) ∧ (¬ a1 < (1 : Int32) → (((6 : Int32) ≤ a1 → Q (-3 : Int32) σ) ∧ (¬ (6 : Int32) ≤ a1 → ∀ σ4 : St, σ4 = setF σ 10 0 12 a1 → (vp_in a1 6 ∧ (vp_in a1 6 ∧ ∀ σ6 : St, σ6 = setA σ4 22 0 (a1).toNatClampNeg ((sA σ4 22 0 (a1).toNatClampNeg) + (1 : Int32)) → Q (-3 : Int32) σ6))))))
set_option maxHeartbeats 4000000 in
set_option maxRecDepth 100000 in
theorem eX10_found {l : Launch} {E : EC} {lay : Nat → Nat → Nat} {L : List (Nat × Nat)} {A : Nat → Prop} {N : Nat} {σ : St} {a1 : Int32} {Q : Int32 → St → Prop} (hf : fX10_found N σ a1 Q) (hm0 : (10, 0) ∈ L) : Met l yX10_found (.code yX10_found cX10_found 2 (some .int) :: big) rmX10_found (va_Pc [.ref (lay 10 0), .int a1] (Bp E lay L A σ)) (va_Qi Q (Bd E lay L A) A) 0 0 A := by
  refine x_met (by decide +kernel) (Nat.le_of_ble_eq_true rfl) ?_
  intro p e s m args below meth c ls C hret hw hl
  have hx := C.1
  have hb := C.2.1
  have hl : lv_has ls 2 [(0, .ref (lay 10 0)), (1, .int a1)] := hl
  unfold fX10_found at hf
  refine lv_iload_n hx hb dX10_found_0 rfl (lv_at hl 1 rfl) ?_
  refine lv_iconst (v := 1) hx hb dX10_found_1 (by decide) ?_
  refine lv_icmp_lt (tgt := 29) hx hb dX10_found_2 (by decide) (fun c1 => ?_) (fun c1 => ?_)
  · replace hf := hf.1 c1
    refine lv_bipush (v := (-3)) hx hb dX10_found_29 (by decide) ?_
    exact x_iret C hret hw hf dX10_found_31
  · replace hf := hf.2 c1
    refine lv_iload_n hx hb dX10_found_5 rfl (lv_at hl 1 rfl) ?_
    refine lv_aload_n hx hb dX10_found_6 rfl (lv_at hl 0 rfl) ?_
    have hm_2 : (22, 0) ∈ L := hw.2.2.2.1 10 0 hm0 10 (by decide) (by decide) rfl
    refine x_get (v := .ref (lay 22 0)) (j := 10) C hw hm0 rfl (by decide) (by decide) rfl q299 dX10_found_7 ?_
    refine x_alen (v := 6) C hw hm_2 (by decide) (by decide) (by decide) dX10_found_10 ?_
    refine lv_icmp_ge (tgt := 29) hx hb dX10_found_11 (by decide) (fun c3 => ?_) (fun c3 => ?_)
    · replace hf := hf.1 c3
      refine lv_bipush (v := (-3)) hx hb dX10_found_29 (by decide) ?_
      exact x_iret C hret hw hf dX10_found_31
    · replace hf := hf.2 c3
      refine lv_aload_n hx hb dX10_found_14 rfl (lv_at hl 0 rfl) ?_
      refine lv_iload_n hx hb dX10_found_15 rfl (lv_at hl 1 rfl) ?_
      refine x_putI (j := 12) (ty := .int) C hw hm0 rfl (by decide) (by decide) rfl rfl (by decide +kernel) rfl rfl q301 dX10_found_16 (fun σ4 H locs eσ4 hw => ?_)
      replace hf := hf σ4 eσ4
      refine lv_aload_n hx hb dX10_found_19 rfl (lv_at hl 0 rfl) ?_
      have hm_5 : (22, 0) ∈ L := hw.2.2.2.1 10 0 hm0 10 (by decide) (by decide) rfl
      refine x_get (v := .ref (lay 22 0)) (j := 10) C hw hm0 rfl (by decide) (by decide) rfl q299 dX10_found_20 ?_
      refine lv_iload_n hx hb dX10_found_23 rfl (lv_at hl 1 rfl) ?_
      refine lv_dup2_11 hx hb dX10_found_24 rfl rfl ?_
      refine x_iald C hw hm_5 (by decide) rfl hf.1 dX10_found_25 ?_
      replace hf := hf.2
      refine lv_iconst (v := 1) hx hb dX10_found_26 (by decide) ?_
      refine lv_iadd hx hb dX10_found_27 ?_
      refine x_iast C hw hm_5 (by decide) rfl hf.1 dX10_found_28 (fun σ6 H locs eσ6 hw => ?_)
      replace hf := hf.2 σ6 eσ6
      refine lv_bipush (v := (-3)) hx hb dX10_found_29 (by decide) ?_
      exact x_iret C hret hw hf dX10_found_31
-- X10_sheet
abbrev rmX10_sheet : Room := { frames := 1, cells := 0, slots := 0, locals := 22 }
def fX10_sheet (N : Nat) (σ : St) (a1 : Int32) (a2 : Int32) (Q : Int32 → St → Prop) : Prop := fX10_sheetAt N σ a1 (fun (r2 : Option Nat) (σ1 : St) => ((r2 = none → Q (-1 : Int32) σ1) ∧ (∀ i3, r2 = some i3 → ((a2 ≤ (200 : Int32) → ((0 ≤ a2 → fX5_makeBlank N σ1 i3 a2 (fun (σ7 : St) => Q a2 σ7)) ∧ (¬ 0 ≤ a2 → fX10_found N σ1 (5 : Int32) (fun (r9 : Int32) (σ8 : St) => Q r9 σ8)))) ∧ (¬ a2 ≤ (200 : Int32) → Q (-1 : Int32) σ1)))))
set_option maxHeartbeats 4000000 in
set_option maxRecDepth 100000 in
theorem eX10_sheet {l : Launch} {E : EC} {lay : Nat → Nat → Nat} {L : List (Nat × Nat)} {A : Nat → Prop} {N : Nat} {σ : St} {a1 : Int32} {a2 : Int32} {Q : Int32 → St → Prop} (hf : fX10_sheet N σ a1 a2 Q) (hm0 : (10, 0) ∈ L) : Met l yX10_sheet (.code yX10_sheet cX10_sheet 4 (some .int) :: big) rmX10_sheet (va_Pc [.ref (lay 10 0), .int a1, .int a2] (Bp E lay L A σ)) (va_Qi Q (Bd E lay L A) A) 0 0 A := by
  refine x_met (by decide +kernel) (Nat.le_of_ble_eq_true rfl) ?_
  intro p e s m args below meth c ls C hret hw hl
  have hx := C.1
  have hb := C.2.1
  have hl : lv_has ls 4 [(0, .ref (lay 10 0)), (1, .int a1), (2, .int a2)] := hl
  unfold fX10_sheet at hf
  refine lv_aload_n hx hb dX10_sheet_0 rfl (lv_at hl 0 rfl) ?_
  refine lv_iload_n hx hb dX10_sheet_1 rfl (lv_at hl 1 rfl) ?_
  refine x_runq hw (x_V (n := 1) (rest := []) C hw hm0 (by decide) (eX10_sheetAt hf hm0) q336 q338 q0 q44 q339 rfl rfl (by decide +kernel) ⟨Nat.le_of_ble_eq_true rfl, Nat.le_of_ble_eq_true rfl⟩ rfl hl.1 rfl (Nat.le_of_ble_eq_true rfl) dX10_sheet_2) (fun r2 σ1 H locs hf hOr2 hw => ?_)
  try dsimp only at hf
  refine x_astore_n (lv' := [(3, rf lay 5 r2), (0, .ref (lay 10 0)), (1, .int a1), (2, .int a2)]) hx hb dX10_sheet_5 rfl hl (by decide) rfl (fun ls hl => ?_)
  refine x_aload_n hx hb dX10_sheet_6 rfl (lv_at hl 0 rfl) ?_
  refine x_ifnull (r := r2) (tgt := 17) hx hb dX10_sheet_7 (by decide) (fun eni3 => ?_) (fun i3 eni3 => ?_)
  · replace hf := hf.1 eni3
    refine lv_iconst (v := (-1)) hx hb dX10_sheet_17 (by decide) ?_
    exact x_iret C hret hw hf dX10_sheet_18
  · replace hf := hf.2 i3 eni3
    have hn_4 := hOr2 i3 eni3
    rw [eni3] at hl
    try rw [eni3]
    have hl : lv_has ls 4 [(3, .ref (lay 5 i3)), (0, .ref (lay 10 0)), (1, .int a1), (2, .int a2)] := hl
    refine lv_iload_n hx hb dX10_sheet_10 rfl (lv_at hl 3 rfl) ?_
    refine lv_sipush (v := 200) hx hb dX10_sheet_11 (by decide) ?_
    refine lv_icmp_le (tgt := 19) hx hb dX10_sheet_14 (by decide) (fun c5 => ?_) (fun c5 => ?_)
    · replace hf := hf.1 c5
      refine lv_iload_n hx hb dX10_sheet_19 rfl (lv_at hl 3 rfl) ?_
      refine lv_if_ge (tgt := 29) hx hb dX10_sheet_20 (by decide) (fun c6 => ?_) (fun c6 => ?_)
      · replace hf := hf.1 c6
        refine lv_aload_n hx hb dX10_sheet_29 rfl (lv_at hl 0 rfl) ?_
        refine lv_iload_n hx hb dX10_sheet_30 rfl (lv_at hl 3 rfl) ?_
        refine x_runv hw (x_V (n := 1) (rest := []) C hw hn_4 (by decide) (eX5_makeBlank hf hn_4) q344 q345 q346 q52 q347 rfl rfl (by decide +kernel) ⟨Nat.le_of_ble_eq_true rfl, Nat.le_of_ble_eq_true rfl⟩ rfl hl.1 rfl (Nat.le_of_ble_eq_true rfl) dX10_sheet_31) (fun σ7 H locs hf hw => ?_)
        try dsimp only at hf
        refine lv_iload_n hx hb dX10_sheet_34 rfl (lv_at hl 3 rfl) ?_
        exact x_iret C hret hw hf dX10_sheet_35
      · replace hf := hf.2 c6
        refine lv_aload_n hx hb dX10_sheet_23 rfl (lv_at hl 1 rfl) ?_
        refine lv_iconst (v := 5) hx hb dX10_sheet_24 (by decide) ?_
        refine x_runi hw (x_V (n := 1) (rest := []) C hw hm0 (by decide) (eX10_found hf hm0) q340 q342 q1 q44 q343 rfl rfl (by decide +kernel) ⟨Nat.le_of_ble_eq_true rfl, Nat.le_of_ble_eq_true rfl⟩ rfl hl.1 rfl (Nat.le_of_ble_eq_true rfl) dX10_sheet_25) (fun r9 σ8 H locs hf hw => ?_)
        try dsimp only at hf
        exact x_iret C hret hw hf dX10_sheet_28
    · replace hf := hf.2 c5
      refine lv_iconst (v := (-1)) hx hb dX10_sheet_17 (by decide) ?_
      exact x_iret C hret hw hf dX10_sheet_18
-- X10_lay
abbrev rmX10_lay : Room := { frames := 1, cells := 0, slots := 0, locals := 22 }
def fX10_lay (N : Nat) (σ : St) (a1 : Int32) (a2 : Int32) (a3 : Int32) (Q : Int32 → St → Prop) : Prop := fX10_sheetAt N σ a1 (fun (r2 : Option Nat) (σ1 : St) => ((r2 = none → Q (-1 : Int32) σ1) ∧ (∀ i3, r2 = some i3 → fX5_isMissing N σ1 i3 (fun (r6 : Int32) (σ5 : St) => ((r6 = 0 → fX5_holds N σ5 i3 a2 (1 : Int32) (fun (r9 : Int32) (σ8 : St) => ((¬ r9 = 0 → fX5_signAt N σ8 i3 a2 (fun (r12 : Int32) (σ11 : St) => fX5_put N σ11 i3 a2 a3 (fun (σ13 : St) => Q (r12 + (1000 : Int32)) σ13))) ∧ (r9 = 0 → fX10_found N σ8 (2 : Int32) (fun (r15 : Int32) (σ14 : St) => Q r15 σ14))))) ∧ (¬ r6 = 0 → fX10_found N σ5 (1 : Int32) (fun (r17 : Int32) (σ16 : St) => Q r17 σ16)))))))
set_option maxHeartbeats 4000000 in
set_option maxRecDepth 100000 in
theorem eX10_lay {l : Launch} {E : EC} {lay : Nat → Nat → Nat} {L : List (Nat × Nat)} {A : Nat → Prop} {N : Nat} {σ : St} {a1 : Int32} {a2 : Int32} {a3 : Int32} {Q : Int32 → St → Prop} (hf : fX10_lay N σ a1 a2 a3 Q) (hm0 : (10, 0) ∈ L) : Met l yX10_lay (.code yX10_lay cX10_lay 6 (some .int) :: big) rmX10_lay (va_Pc [.ref (lay 10 0), .int a1, .int a2, .int a3] (Bp E lay L A σ)) (va_Qi Q (Bd E lay L A) A) 0 0 A := by
  refine x_met (by decide +kernel) (Nat.le_of_ble_eq_true rfl) ?_
  intro p e s m args below meth c ls C hret hw hl
  have hx := C.1
  have hb := C.2.1
  have hl : lv_has ls 6 [(0, .ref (lay 10 0)), (1, .int a1), (2, .int a2), (3, .int a3)] := hl
  unfold fX10_lay at hf
  refine lv_aload_n hx hb dX10_lay_0 rfl (lv_at hl 0 rfl) ?_
  refine lv_iload_n hx hb dX10_lay_1 rfl (lv_at hl 1 rfl) ?_
  refine x_runq hw (x_V (n := 1) (rest := []) C hw hm0 (by decide) (eX10_sheetAt hf hm0) q336 q338 q0 q44 q339 rfl rfl (by decide +kernel) ⟨Nat.le_of_ble_eq_true rfl, Nat.le_of_ble_eq_true rfl⟩ rfl hl.1 rfl (Nat.le_of_ble_eq_true rfl) dX10_lay_2) (fun r2 σ1 H locs hf hOr2 hw => ?_)
  try dsimp only at hf
  refine x_astore (lv' := [(4, rf lay 5 r2), (0, .ref (lay 10 0)), (1, .int a1), (2, .int a2), (3, .int a3)]) hx hb dX10_lay_5 hl (by decide) rfl (fun ls hl => ?_)
  refine x_aload hx hb dX10_lay_7 (lv_at hl 0 rfl) ?_
  refine x_ifnonnull (r := r2) (tgt := 14) hx hb dX10_lay_9 (by decide) (fun eni3 => ?_) (fun i3 eni3 => ?_)
  · replace hf := hf.1 eni3
    refine lv_iconst (v := (-1)) hx hb dX10_lay_12 (by decide) ?_
    exact x_iret C hret hw hf dX10_lay_13
  · replace hf := hf.2 i3 eni3
    have hn_4 := hOr2 i3 eni3
    rw [eni3] at hl
    try rw [eni3]
    have hl : lv_has ls 6 [(4, .ref (lay 5 i3)), (0, .ref (lay 10 0)), (1, .int a1), (2, .int a2), (3, .int a3)] := hl
    refine lv_aload hx hb dX10_lay_14 (lv_at hl 0 rfl) ?_
    refine x_runi hw (x_V (n := 0) (rest := []) C hw hn_4 (by decide) (eX5_isMissing hf hn_4) q352 q353 q354 q52 q355 rfl rfl (by decide +kernel) ⟨Nat.le_of_ble_eq_true rfl, Nat.le_of_ble_eq_true rfl⟩ rfl hl.1 rfl (Nat.le_of_ble_eq_true rfl) dX10_lay_16) (fun r6 σ5 H locs hf hw => ?_)
    have hzr6 := hf.2
    replace hf := hf.1
    try dsimp only at hf
    refine lv_if_eq (tgt := 28) hx hb dX10_lay_19 (by decide) (fun c7 => ?_) (fun c7 => ?_)
    · replace hf := hf.1 c7
      refine lv_aload hx hb dX10_lay_28 (lv_at hl 0 rfl) ?_
      refine lv_iload_n hx hb dX10_lay_30 rfl (lv_at hl 3 rfl) ?_
      refine lv_iconst (v := 1) hx hb dX10_lay_31 (by decide) ?_
      refine x_runi hw (x_V (n := 2) (rest := []) C hw hn_4 (by decide) (eX5_holds hf hn_4) q356 q357 q358 q52 q359 rfl rfl (by decide +kernel) ⟨Nat.le_of_ble_eq_true rfl, Nat.le_of_ble_eq_true rfl⟩ rfl hl.1 rfl (Nat.le_of_ble_eq_true rfl) dX10_lay_32) (fun r9 σ8 H locs hf hw => ?_)
      have hzr9 := hf.2
      replace hf := hf.1
      try dsimp only at hf
      refine lv_if_ne (tgt := 44) hx hb dX10_lay_35 (by decide) (fun c10 => ?_) (fun c10 => ?_)
      · replace hf := hf.1 c10
        refine lv_aload hx hb dX10_lay_44 (lv_at hl 0 rfl) ?_
        refine lv_iload_n hx hb dX10_lay_46 rfl (lv_at hl 3 rfl) ?_
        refine x_runi hw (x_V (n := 1) (rest := []) C hw hn_4 (by decide) (eX5_signAt hf hn_4) q360 q361 q362 q52 q363 rfl rfl (by decide +kernel) ⟨Nat.le_of_ble_eq_true rfl, Nat.le_of_ble_eq_true rfl⟩ rfl hl.1 rfl (Nat.le_of_ble_eq_true rfl) dX10_lay_47) (fun r12 σ11 H locs hf hw => ?_)
        try dsimp only at hf
        refine lv_istore (lv' := [(5, .int r12), (4, .ref (lay 5 i3)), (0, .ref (lay 10 0)), (1, .int a1), (2, .int a2), (3, .int a3)]) hx hb dX10_lay_50 hl (by decide) rfl (fun ls hl => ?_)
        refine lv_aload hx hb dX10_lay_52 (lv_at hl 1 rfl) ?_
        refine lv_iload_n hx hb dX10_lay_54 rfl (lv_at hl 4 rfl) ?_
        refine lv_iload_n hx hb dX10_lay_55 rfl (lv_at hl 5 rfl) ?_
        refine x_runv hw (x_V (n := 2) (rest := []) C hw hn_4 (by decide) (eX5_put hf hn_4) q364 q365 q366 q52 q367 rfl rfl (by decide +kernel) ⟨Nat.le_of_ble_eq_true rfl, Nat.le_of_ble_eq_true rfl⟩ rfl hl.1 rfl (Nat.le_of_ble_eq_true rfl) dX10_lay_56) (fun σ13 H locs hf hw => ?_)
        try dsimp only at hf
        refine lv_iload hx hb dX10_lay_59 (lv_at hl 0 rfl) ?_
        refine lv_sipush (v := 1000) hx hb dX10_lay_61 (by decide) ?_
        refine lv_iadd hx hb dX10_lay_64 ?_
        exact x_iret C hret hw hf dX10_lay_65
      · replace hf := hf.2 c10
        refine lv_aload_n hx hb dX10_lay_38 rfl (lv_at hl 1 rfl) ?_
        refine lv_iconst (v := 2) hx hb dX10_lay_39 (by decide) ?_
        refine x_runi hw (x_V (n := 1) (rest := []) C hw hm0 (by decide) (eX10_found hf hm0) q340 q342 q1 q44 q343 rfl rfl (by decide +kernel) ⟨Nat.le_of_ble_eq_true rfl, Nat.le_of_ble_eq_true rfl⟩ rfl hl.1 rfl (Nat.le_of_ble_eq_true rfl) dX10_lay_40) (fun r15 σ14 H locs hf hw => ?_)
        try dsimp only at hf
        exact x_iret C hret hw hf dX10_lay_43
    · replace hf := hf.2 c7
      refine lv_aload_n hx hb dX10_lay_22 rfl (lv_at hl 1 rfl) ?_
      refine lv_iconst (v := 1) hx hb dX10_lay_23 (by decide) ?_
      refine x_runi hw (x_V (n := 1) (rest := []) C hw hm0 (by decide) (eX10_found hf hm0) q340 q342 q1 q44 q343 rfl rfl (by decide +kernel) ⟨Nat.le_of_ble_eq_true rfl, Nat.le_of_ble_eq_true rfl⟩ rfl hl.1 rfl (Nat.le_of_ble_eq_true rfl) dX10_lay_24) (fun r17 σ16 H locs hf hw => ?_)
      try dsimp only at hf
      exact x_iret C hret hw hf dX10_lay_27
-- X10_tear
abbrev rmX10_tear : Room := { frames := 1, cells := 0, slots := 0, locals := 21 }
def fX10_tear (N : Nat) (σ : St) (a1 : Int32) (Q : Int32 → St → Prop) : Prop := fX10_sheetAt N σ a1 (fun (r2 : Option Nat) (σ1 : St) => ((r2 = none → Q (-1 : Int32) σ1) ∧ (∀ i3, r2 = some i3 → fX5_isMissing N σ1 i3 (fun (r6 : Int32) (σ5 : St) => ((r6 = 0 → fX5_remove N σ5 i3 (fun (σ8 : St) => Q (1 : Int32) σ8)) ∧ (¬ r6 = 0 → fX10_found N σ5 (1 : Int32) (fun (r10 : Int32) (σ9 : St) => Q r10 σ9)))))))
set_option maxHeartbeats 4000000 in
set_option maxRecDepth 100000 in
theorem eX10_tear {l : Launch} {E : EC} {lay : Nat → Nat → Nat} {L : List (Nat × Nat)} {A : Nat → Prop} {N : Nat} {σ : St} {a1 : Int32} {Q : Int32 → St → Prop} (hf : fX10_tear N σ a1 Q) (hm0 : (10, 0) ∈ L) : Met l yX10_tear (.code yX10_tear cX10_tear 3 (some .int) :: big) rmX10_tear (va_Pc [.ref (lay 10 0), .int a1] (Bp E lay L A σ)) (va_Qi Q (Bd E lay L A) A) 0 0 A := by
  refine x_met (by decide +kernel) (Nat.le_of_ble_eq_true rfl) ?_
  intro p e s m args below meth c ls C hret hw hl
  have hx := C.1
  have hb := C.2.1
  have hl : lv_has ls 3 [(0, .ref (lay 10 0)), (1, .int a1)] := hl
  unfold fX10_tear at hf
  refine lv_aload_n hx hb dX10_tear_0 rfl (lv_at hl 0 rfl) ?_
  refine lv_iload_n hx hb dX10_tear_1 rfl (lv_at hl 1 rfl) ?_
  refine x_runq hw (x_V (n := 1) (rest := []) C hw hm0 (by decide) (eX10_sheetAt hf hm0) q336 q338 q0 q44 q339 rfl rfl (by decide +kernel) ⟨Nat.le_of_ble_eq_true rfl, Nat.le_of_ble_eq_true rfl⟩ rfl hl.1 rfl (Nat.le_of_ble_eq_true rfl) dX10_tear_2) (fun r2 σ1 H locs hf hOr2 hw => ?_)
  try dsimp only at hf
  refine x_astore_n (lv' := [(2, rf lay 5 r2), (0, .ref (lay 10 0)), (1, .int a1)]) hx hb dX10_tear_5 rfl hl (by decide) rfl (fun ls hl => ?_)
  refine x_aload_n hx hb dX10_tear_6 rfl (lv_at hl 0 rfl) ?_
  refine x_ifnonnull (r := r2) (tgt := 12) hx hb dX10_tear_7 (by decide) (fun eni3 => ?_) (fun i3 eni3 => ?_)
  · replace hf := hf.1 eni3
    refine lv_iconst (v := (-1)) hx hb dX10_tear_10 (by decide) ?_
    exact x_iret C hret hw hf dX10_tear_11
  · replace hf := hf.2 i3 eni3
    have hn_4 := hOr2 i3 eni3
    rw [eni3] at hl
    try rw [eni3]
    have hl : lv_has ls 3 [(2, .ref (lay 5 i3)), (0, .ref (lay 10 0)), (1, .int a1)] := hl
    refine lv_aload_n hx hb dX10_tear_12 rfl (lv_at hl 0 rfl) ?_
    refine x_runi hw (x_V (n := 0) (rest := []) C hw hn_4 (by decide) (eX5_isMissing hf hn_4) q352 q353 q354 q52 q355 rfl rfl (by decide +kernel) ⟨Nat.le_of_ble_eq_true rfl, Nat.le_of_ble_eq_true rfl⟩ rfl hl.1 rfl (Nat.le_of_ble_eq_true rfl) dX10_tear_13) (fun r6 σ5 H locs hf hw => ?_)
    have hzr6 := hf.2
    replace hf := hf.1
    try dsimp only at hf
    refine lv_if_eq (tgt := 25) hx hb dX10_tear_16 (by decide) (fun c7 => ?_) (fun c7 => ?_)
    · replace hf := hf.1 c7
      refine lv_aload_n hx hb dX10_tear_25 rfl (lv_at hl 0 rfl) ?_
      refine x_runv hw (x_V (n := 0) (rest := []) C hw hn_4 (by decide) (eX5_remove hf hn_4) q372 q373 q374 q52 q375 rfl rfl (by decide +kernel) ⟨Nat.le_of_ble_eq_true rfl, Nat.le_of_ble_eq_true rfl⟩ rfl hl.1 rfl (Nat.le_of_ble_eq_true rfl) dX10_tear_26) (fun σ8 H locs hf hw => ?_)
      try dsimp only at hf
      refine lv_iconst (v := 1) hx hb dX10_tear_29 (by decide) ?_
      exact x_iret C hret hw hf dX10_tear_30
    · replace hf := hf.2 c7
      refine lv_aload_n hx hb dX10_tear_19 rfl (lv_at hl 1 rfl) ?_
      refine lv_iconst (v := 1) hx hb dX10_tear_20 (by decide) ?_
      refine x_runi hw (x_V (n := 1) (rest := []) C hw hm0 (by decide) (eX10_found hf hm0) q340 q342 q1 q44 q343 rfl rfl (by decide +kernel) ⟨Nat.le_of_ble_eq_true rfl, Nat.le_of_ble_eq_true rfl⟩ rfl hl.1 rfl (Nat.le_of_ble_eq_true rfl) dX10_tear_21) (fun r10 σ9 H locs hf hw => ?_)
      try dsimp only at hf
      exact x_iret C hret hw hf dX10_tear_24
-- X10_isWriter
abbrev rmX10_isWriter : Room := { frames := 0, cells := 0, slots := 0, locals := 0 }
def fX10_isWriter (N : Nat) (σ : St) (a0 : Int32) (Q : Int32 → St → Prop) : Prop := ((a0 < 0 → Q (0 : Int32) σ) ∧ (¬ a0 < 0 → (((6 : Int32) ≤ a0 → Q (0 : Int32) σ) ∧ (¬ (6 : Int32) ≤ a0 → Q (1 : Int32) σ))))
set_option maxHeartbeats 4000000 in
set_option maxRecDepth 100000 in
theorem eX10_isWriter {l : Launch} {E : EC} {lay : Nat → Nat → Nat} {L : List (Nat × Nat)} {A : Nat → Prop} {N : Nat} {σ : St} {a0 : Int32} {Q : Int32 → St → Prop} (hf : fX10_isWriter N σ a0 Q) : Met l yX10_isWriter (.code yX10_isWriter cX10_isWriter 1 (some .boolean) :: big) rmX10_isWriter (va_Pc [.int a0] (Bp E lay L A σ)) (va_Qi (fun r u => Q r u ∧ narrow .boolean (.int r) = .int r) (Bd E lay L A) A) 0 0 A := by
  refine x_met (by decide +kernel) (Nat.le_of_ble_eq_true rfl) ?_
  intro p e s m args below meth c ls C hret hw hl
  have hx := C.1
  have hb := C.2.1
  have hl : lv_has ls 1 [(0, .int a0)] := hl
  unfold fX10_isWriter at hf
  refine lv_iload_n hx hb dX10_isWriter_0 rfl (lv_at hl 0 rfl) ?_
  refine lv_if_lt (tgt := 14) hx hb dX10_isWriter_1 (by decide) (fun c1 => ?_) (fun c1 => ?_)
  · replace hf := hf.1 c1
    refine lv_iconst (v := 0) hx hb dX10_isWriter_14 (by decide) ?_
    exact x_zret C hret (by decide) hw ⟨hf, by decide⟩ dX10_isWriter_15
  · replace hf := hf.2 c1
    refine lv_iload_n hx hb dX10_isWriter_4 rfl (lv_at hl 0 rfl) ?_
    refine lv_bipush (v := 6) hx hb dX10_isWriter_5 (by decide) ?_
    refine lv_icmp_ge (tgt := 14) hx hb dX10_isWriter_7 (by decide) (fun c2 => ?_) (fun c2 => ?_)
    · replace hf := hf.1 c2
      refine lv_iconst (v := 0) hx hb dX10_isWriter_14 (by decide) ?_
      exact x_zret C hret (by decide) hw ⟨hf, by decide⟩ dX10_isWriter_15
    · replace hf := hf.2 c2
      refine lv_iconst (v := 1) hx hb dX10_isWriter_10 (by decide) ?_
      refine lv_goto (tgt := 15) hx hb dX10_isWriter_11 (by decide) ?_
      exact x_zret C hret (by decide) hw ⟨hf, by decide⟩ dX10_isWriter_15
-- X10_textAt
abbrev rmX10_textAt : Room := { frames := 0, cells := 0, slots := 0, locals := 0 }
def fX10_textAt_b22 (N : Nat) (a1 : Int32) (Q : Option Nat → St → Prop) (σ : St) : Prop := Q none σ
set_option maxHeartbeats 4000000 in
set_option maxRecDepth 100000 in
theorem eX10_textAt_b22 {p : Program} {l : Launch} {e : Env} {s : State} {m : MethodId} {args : Array Value} {below : List Frame} {meth : Method} {c : Code} {E : EC} {lay : Nat → Nat → Nat} {L : List (Nat × Nat)} {A : Nat → Prop} (C : Cx p s m args c meth yX10_textAt.cls cX10_textAt 2 E A) (hret : meth.sig.returnType = some (.object "WhoseHand$Text")) {N : Nat} {a1 : Int32} {Q : Option Nat → St → Prop} (hm0 : (10, 0) ∈ L) (σ : St) (H : Heap) (locs : List Loc) (ls : Array Slot) (hf : fX10_textAt_b22 N a1 Q σ) (hw : Wo E lay L A s σ H locs) (hl : lv_has ls 2 []) : W p l e rmX10_textAt s m args below meth c H locs 0 0 (MQ below (va_Qq (Qo lay L 8 Q) (Bd E lay L A) A) args s 0 0 A) (F0 m 22 ls []) := by
  have hx := C.1
  have hb := C.2.1
  unfold fX10_textAt_b22 at hf
  refine lv_null hx hb dX10_textAt_22 ?_
  exact x_aret (K := 8) (r := none) C hret hw rfl (fun i h => by cases h) hf dX10_textAt_23
def fX10_textAt (N : Nat) (σ : St) (a1 : Int32) (Q : Option Nat → St → Prop) : Prop := ((a1 < 0 → fX10_textAt_b22 N a1 Q σ) ∧ (¬ a1 < 0 → (((14 : Int32) ≤ a1 → fX10_textAt_b22 N a1 Q σ) ∧ (¬ (14 : Int32) ≤ a1 → (vp_in a1 14 ∧ Q (sR σ 21 0 (a1).toNatClampNeg) σ)))))
set_option maxHeartbeats 4000000 in
set_option maxRecDepth 100000 in
theorem eX10_textAt {l : Launch} {E : EC} {lay : Nat → Nat → Nat} {L : List (Nat × Nat)} {A : Nat → Prop} {N : Nat} {σ : St} {a1 : Int32} {Q : Option Nat → St → Prop} (hf : fX10_textAt N σ a1 Q) (hm0 : (10, 0) ∈ L) : Met l yX10_textAt (.code yX10_textAt cX10_textAt 2 (some (.object "WhoseHand$Text")) :: big) rmX10_textAt (va_Pc [.ref (lay 10 0), .int a1] (Bp E lay L A σ)) (va_Qq (Qo lay L 8 Q) (Bd E lay L A) A) 0 0 A := by
  refine x_met (by decide +kernel) (Nat.le_of_ble_eq_true rfl) ?_
  intro p e s m args below meth c ls C hret hw hl
  have hx := C.1
  have hb := C.2.1
  have hl : lv_has ls 2 [(0, .ref (lay 10 0)), (1, .int a1)] := hl
  unfold fX10_textAt at hf
  refine lv_iload_n hx hb dX10_textAt_0 rfl (lv_at hl 1 rfl) ?_
  refine lv_if_lt (tgt := 22) hx hb dX10_textAt_1 (by decide) (fun c1 => ?_) (fun c1 => ?_)
  · replace hf := hf.1 c1
    exact eX10_textAt_b22 C hret hm0 σ _ _ _ hf hw (lv_sub hl [] rfl)
  · replace hf := hf.2 c1
    refine lv_iload_n hx hb dX10_textAt_4 rfl (lv_at hl 1 rfl) ?_
    refine lv_aload_n hx hb dX10_textAt_5 rfl (lv_at hl 0 rfl) ?_
    have hm_2 : (21, 0) ∈ L := hw.2.2.2.1 10 0 hm0 1 (by decide) (by decide) rfl
    refine x_get (v := .ref (lay 21 0)) (j := 1) C hw hm0 rfl (by decide) (by decide) rfl q290 dX10_textAt_6 ?_
    refine x_alen (v := 14) C hw hm_2 (by decide) (by decide) (by decide) dX10_textAt_9 ?_
    refine lv_icmp_ge (tgt := 22) hx hb dX10_textAt_10 (by decide) (fun c3 => ?_) (fun c3 => ?_)
    · replace hf := hf.1 c3
      exact eX10_textAt_b22 C hret hm0 σ _ _ _ hf hw (lv_sub hl [] rfl)
    · replace hf := hf.2 c3
      refine lv_aload_n hx hb dX10_textAt_13 rfl (lv_at hl 0 rfl) ?_
      have hm_4 : (21, 0) ∈ L := hw.2.2.2.1 10 0 hm0 1 (by decide) (by decide) rfl
      refine x_get (v := .ref (lay 21 0)) (j := 1) C hw hm0 rfl (by decide) (by decide) rfl q290 dX10_textAt_14 ?_
      refine lv_iload_n hx hb dX10_textAt_17 rfl (lv_at hl 1 rfl) ?_
      have hO_5 : ∀ i, (sR σ 21 0 (a1).toNatClampNeg) = some i → (8, i) ∈ L := fun i h => hw.2.2.2.2 21 _ _ i h
      refine x_aald (t := 5) (T := 8) C hw hm_4 (by decide) rfl (by decide) rfl hf.1 rfl dX10_textAt_18 ?_
      replace hf := hf.2
      refine lv_goto (tgt := 23) hx hb dX10_textAt_19 (by decide) ?_
      exact x_aret (K := 8) (r := (sR σ 21 0 (a1).toNatClampNeg)) C hret hw rfl hO_5 hf dX10_textAt_23
-- X10_told
abbrev rmX10_told : Room := { frames := 1, cells := 0, slots := 0, locals := 21 }
def fX10_told (N : Nat) (σ : St) (a1 : Int32) (a2 : Int32) (Q : Int32 → St → Prop) : Prop := fX10_textAt N σ a1 (fun (r2 : Option Nat) (σ1 : St) => ((r2 = none → Q (-1 : Int32) σ1) ∧ (∀ i3, r2 = some i3 → ((a2 < 0 → Q (-1 : Int32) σ1) ∧ (¬ a2 < 0 → ((a2 < (5 : Int32) → (((sF σ1 8 i3 5) = 0 → fX8_tell N σ1 i3 a2 (fun (r9 : Int32) (σ8 : St) => Q r9 σ8)) ∧ (¬ (sF σ1 8 i3 5) = 0 → fX10_found N σ1 (1 : Int32) (fun (r11 : Int32) (σ10 : St) => Q r11 σ10)))) ∧ (¬ a2 < (5 : Int32) → Q (-1 : Int32) σ1)))))))
set_option maxHeartbeats 4000000 in
set_option maxRecDepth 100000 in
theorem eX10_told {l : Launch} {E : EC} {lay : Nat → Nat → Nat} {L : List (Nat × Nat)} {A : Nat → Prop} {N : Nat} {σ : St} {a1 : Int32} {a2 : Int32} {Q : Int32 → St → Prop} (hf : fX10_told N σ a1 a2 Q) (hm0 : (10, 0) ∈ L) : Met l yX10_told (.code yX10_told cX10_told 4 (some .int) :: big) rmX10_told (va_Pc [.ref (lay 10 0), .int a1, .int a2] (Bp E lay L A σ)) (va_Qi Q (Bd E lay L A) A) 0 0 A := by
  refine x_met (by decide +kernel) (Nat.le_of_ble_eq_true rfl) ?_
  intro p e s m args below meth c ls C hret hw hl
  have hx := C.1
  have hb := C.2.1
  have hl : lv_has ls 4 [(0, .ref (lay 10 0)), (1, .int a1), (2, .int a2)] := hl
  unfold fX10_told at hf
  refine lv_aload_n hx hb dX10_told_0 rfl (lv_at hl 0 rfl) ?_
  refine lv_iload_n hx hb dX10_told_1 rfl (lv_at hl 1 rfl) ?_
  refine x_runq hw (x_V (n := 1) (rest := []) C hw hm0 (by decide) (eX10_textAt hf hm0) q513 q515 q9 q44 q516 rfl rfl (by decide +kernel) ⟨Nat.le_of_ble_eq_true rfl, Nat.le_of_ble_eq_true rfl⟩ rfl hl.1 rfl (Nat.le_of_ble_eq_true rfl) dX10_told_2) (fun r2 σ1 H locs hf hOr2 hw => ?_)
  try dsimp only at hf
  refine x_astore_n (lv' := [(3, rf lay 8 r2), (0, .ref (lay 10 0)), (1, .int a1), (2, .int a2)]) hx hb dX10_told_5 rfl hl (by decide) rfl (fun ls hl => ?_)
  refine x_aload_n hx hb dX10_told_6 rfl (lv_at hl 0 rfl) ?_
  refine x_ifnull (r := r2) (tgt := 19) hx hb dX10_told_7 (by decide) (fun eni3 => ?_) (fun i3 eni3 => ?_)
  · replace hf := hf.1 eni3
    refine lv_iconst (v := (-1)) hx hb dX10_told_19 (by decide) ?_
    exact x_iret C hret hw hf dX10_told_20
  · replace hf := hf.2 i3 eni3
    have hn_4 := hOr2 i3 eni3
    rw [eni3] at hl
    try rw [eni3]
    have hl : lv_has ls 4 [(3, .ref (lay 8 i3)), (0, .ref (lay 10 0)), (1, .int a1), (2, .int a2)] := hl
    refine lv_iload_n hx hb dX10_told_10 rfl (lv_at hl 3 rfl) ?_
    refine lv_if_lt (tgt := 19) hx hb dX10_told_11 (by decide) (fun c5 => ?_) (fun c5 => ?_)
    · replace hf := hf.1 c5
      refine lv_iconst (v := (-1)) hx hb dX10_told_19 (by decide) ?_
      exact x_iret C hret hw hf dX10_told_20
    · replace hf := hf.2 c5
      refine lv_iload_n hx hb dX10_told_14 rfl (lv_at hl 3 rfl) ?_
      refine lv_iconst (v := 5) hx hb dX10_told_15 (by decide) ?_
      refine lv_icmp_lt (tgt := 21) hx hb dX10_told_16 (by decide) (fun c6 => ?_) (fun c6 => ?_)
      · replace hf := hf.1 c6
        refine lv_aload_n hx hb dX10_told_21 rfl (lv_at hl 0 rfl) ?_
        refine x_getN (v := .int (sF σ1 8 i3 5)) (j := 5) (host := "WhoseHand") C hw hn_4 rfl (by decide) (by decide) rfl q420 dX10_told_22 ?_
        refine lv_if_eq (tgt := 34) hx hb dX10_told_25 (by decide) (fun c7 => ?_) (fun c7 => ?_)
        · replace hf := hf.1 c7
          refine lv_aload_n hx hb dX10_told_34 rfl (lv_at hl 0 rfl) ?_
          refine lv_iload_n hx hb dX10_told_35 rfl (lv_at hl 3 rfl) ?_
          refine x_runi hw (x_V (n := 1) (rest := []) C hw hn_4 (by decide) (eX8_tell hf hn_4) q517 q518 q519 q55 q520 rfl rfl (by decide +kernel) ⟨Nat.le_of_ble_eq_true rfl, Nat.le_of_ble_eq_true rfl⟩ rfl hl.1 rfl (Nat.le_of_ble_eq_true rfl) dX10_told_36) (fun r9 σ8 H locs hf hw => ?_)
          try dsimp only at hf
          exact x_iret C hret hw hf dX10_told_39
        · replace hf := hf.2 c7
          refine lv_aload_n hx hb dX10_told_28 rfl (lv_at hl 1 rfl) ?_
          refine lv_iconst (v := 1) hx hb dX10_told_29 (by decide) ?_
          refine x_runi hw (x_V (n := 1) (rest := []) C hw hm0 (by decide) (eX10_found hf hm0) q340 q342 q1 q44 q343 rfl rfl (by decide +kernel) ⟨Nat.le_of_ble_eq_true rfl, Nat.le_of_ble_eq_true rfl⟩ rfl hl.1 rfl (Nat.le_of_ble_eq_true rfl) dX10_told_30) (fun r11 σ10 H locs hf hw => ?_)
          try dsimp only at hf
          exact x_iret C hret hw hf dX10_told_33
      · replace hf := hf.2 c6
        refine lv_iconst (v := (-1)) hx hb dX10_told_19 (by decide) ?_
        exact x_iret C hret hw hf dX10_told_20
