-- X11_in
abbrev rmX11_in : Room := { frames := 0, cells := 0, slots := 0, locals := 0 }
def fX11_in (N : Nat) (σ : St) (a0 : Int32) (a1 : Int32) (a2 : Int32) (Q : Int32 → St → Prop) : Prop := ((a0 < a1 → Q (0 : Int32) σ) ∧ (¬ a0 < a1 → ((a2 < a0 → Q (0 : Int32) σ) ∧ (¬ a2 < a0 → Q (1 : Int32) σ))))
set_option maxHeartbeats 4000000 in
set_option maxRecDepth 100000 in
theorem eX11_in {l : Launch} {E : EC} {lay : Nat → Nat → Nat} {L : List (Nat × Nat)} {A : Nat → Prop} {N : Nat} {σ : St} {a0 : Int32} {a1 : Int32} {a2 : Int32} {Q : Int32 → St → Prop} (hf : fX11_in N σ a0 a1 a2 Q) : Met l yX11_in (.code yX11_in cX11_in 3 (some .boolean) :: big) rmX11_in (va_Pc [.int a0, .int a1, .int a2] (Bp E lay L A σ)) (va_Qi (fun r u => Q r u ∧ narrow .boolean (.int r) = .int r) (Bd E lay L A) A) 0 0 A := by
  refine x_met (by decide +kernel) (Nat.le_of_ble_eq_true rfl) ?_
  intro p e s m args below meth c ls C hret hw hl
  have hx := C.1
  have hb := C.2.1
  have hl : lv_has ls 3 [(0, .int a0), (1, .int a1), (2, .int a2)] := hl
  unfold fX11_in at hf
  refine lv_iload_n hx hb dX11_in_0 rfl (lv_at hl 0 rfl) ?_
  refine lv_iload_n hx hb dX11_in_1 rfl (lv_at hl 1 rfl) ?_
  refine lv_icmp_lt (tgt := 14) hx hb dX11_in_2 (by decide) (fun c1 => ?_) (fun c1 => ?_)
  · replace hf := hf.1 c1
    refine lv_iconst (v := 0) hx hb dX11_in_14 (by decide) ?_
    exact x_zret C hret (by decide) hw ⟨hf, by decide⟩ dX11_in_15
  · replace hf := hf.2 c1
    refine lv_iload_n hx hb dX11_in_5 rfl (lv_at hl 0 rfl) ?_
    refine lv_iload_n hx hb dX11_in_6 rfl (lv_at hl 2 rfl) ?_
    refine lv_icmp_gt (tgt := 14) hx hb dX11_in_7 (by decide) (fun c2 => ?_) (fun c2 => ?_)
    · replace hf := hf.1 c2
      refine lv_iconst (v := 0) hx hb dX11_in_14 (by decide) ?_
      exact x_zret C hret (by decide) hw ⟨hf, by decide⟩ dX11_in_15
    · replace hf := hf.2 c2
      refine lv_iconst (v := 1) hx hb dX11_in_10 (by decide) ?_
      refine lv_goto (tgt := 15) hx hb dX11_in_11 (by decide) ?_
      exact x_zret C hret (by decide) hw ⟨hf, by decide⟩ dX11_in_15
-- X11_meets
abbrev rmX11_meets : Room := { frames := 0, cells := 0, slots := 0, locals := 0 }
def fX11_meets (N : Nat) (σ : St) (a1 : Int32) (Q : Int32 → St → Prop) : Prop := ∀ σ1 : St, σ1 = setF σ 11 0 0 a1 → (vp_in a1 6 ∧ (vp_in a1 6 ∧ ∀ σ3 : St, σ3 = setA σ1 61 0 (a1).toNatClampNeg ((sA σ1 61 0 (a1).toNatClampNeg) + (1 : Int32)) → Q (-3 : Int32) σ3))
set_option maxHeartbeats 4000000 in
set_option maxRecDepth 100000 in
theorem eX11_meets {l : Launch} {E : EC} {lay : Nat → Nat → Nat} {L : List (Nat × Nat)} {A : Nat → Prop} {N : Nat} {σ : St} {a1 : Int32} {Q : Int32 → St → Prop} (hf : fX11_meets N σ a1 Q) (hm0 : (11, 0) ∈ L) : Met l yX11_meets (.code yX11_meets cX11_meets 2 (some .int) :: big) rmX11_meets (va_Pc [.ref (lay 11 0), .int a1] (Bp E lay L A σ)) (va_Qi Q (Bd E lay L A) A) 0 0 A := by
  refine x_met (by decide +kernel) (Nat.le_of_ble_eq_true rfl) ?_
  intro p e s m args below meth c ls C hret hw hl
  have hx := C.1
  have hb := C.2.1
  have hl : lv_has ls 2 [(0, .ref (lay 11 0)), (1, .int a1)] := hl
  unfold fX11_meets at hf
  refine lv_aload_n hx hb dX11_meets_0 rfl (lv_at hl 0 rfl) ?_
  refine lv_iload_n hx hb dX11_meets_1 rfl (lv_at hl 1 rfl) ?_
  refine x_putI (j := 0) (ty := .int) C hw hm0 rfl (by decide) (by decide) rfl rfl (by decide +kernel) rfl rfl q880 dX11_meets_2 (fun σ1 H locs eσ1 hw => ?_)
  replace hf := hf σ1 eσ1
  refine lv_aload_n hx hb dX11_meets_5 rfl (lv_at hl 0 rfl) ?_
  have hm_2 : (61, 0) ∈ L := hw.2.2.2.1 11 0 hm0 1 (by decide) (by decide) rfl
  refine x_get (v := .ref (lay 61 0)) (j := 1) C hw hm0 rfl (by decide) (by decide) rfl q881 dX11_meets_6 ?_
  refine lv_iload_n hx hb dX11_meets_9 rfl (lv_at hl 1 rfl) ?_
  refine lv_dup2_11 hx hb dX11_meets_10 rfl rfl ?_
  refine x_iald C hw hm_2 (by decide) rfl hf.1 dX11_meets_11 ?_
  replace hf := hf.2
  refine lv_iconst (v := 1) hx hb dX11_meets_12 (by decide) ?_
  refine lv_iadd hx hb dX11_meets_13 ?_
  refine x_iast C hw hm_2 (by decide) rfl hf.1 dX11_meets_14 (fun σ3 H locs eσ3 hw => ?_)
  replace hf := hf.2 σ3 eσ3
  refine lv_bipush (v := (-3)) hx hb dX11_meets_15 (by decide) ?_
  exact x_iret C hret hw hf dX11_meets_17
-- X11_has
abbrev rmX11_has : Room := { frames := 0, cells := 0, slots := 0, locals := 0 }
def fX11_has (N : Nat) (σ : St) (a0 : Int32) (a1 : Int32) (Q : Int32 → St → Prop) : Prop := ((¬ ((a0 >>> (a1 &&& 31)) &&& (1 : Int32)) = (1 : Int32) → Q (0 : Int32) σ) ∧ (((a0 >>> (a1 &&& 31)) &&& (1 : Int32)) = (1 : Int32) → Q (1 : Int32) σ))
set_option maxHeartbeats 4000000 in
set_option maxRecDepth 100000 in
theorem eX11_has {l : Launch} {E : EC} {lay : Nat → Nat → Nat} {L : List (Nat × Nat)} {A : Nat → Prop} {N : Nat} {σ : St} {a0 : Int32} {a1 : Int32} {Q : Int32 → St → Prop} (hf : fX11_has N σ a0 a1 Q) : Met l yX11_has (.code yX11_has cX11_has 2 (some .boolean) :: big) rmX11_has (va_Pc [.int a0, .int a1] (Bp E lay L A σ)) (va_Qi (fun r u => Q r u ∧ narrow .boolean (.int r) = .int r) (Bd E lay L A) A) 0 0 A := by
  refine x_met (by decide +kernel) (Nat.le_of_ble_eq_true rfl) ?_
  intro p e s m args below meth c ls C hret hw hl
  have hx := C.1
  have hb := C.2.1
  have hl : lv_has ls 2 [(0, .int a0), (1, .int a1)] := hl
  unfold fX11_has at hf
  refine lv_iload_n hx hb dX11_has_0 rfl (lv_at hl 0 rfl) ?_
  refine lv_iload_n hx hb dX11_has_1 rfl (lv_at hl 1 rfl) ?_
  refine lv_ishr hx hb dX11_has_2 ?_
  refine lv_iconst (v := 1) hx hb dX11_has_3 (by decide) ?_
  refine lv_iand hx hb dX11_has_4 ?_
  refine lv_iconst (v := 1) hx hb dX11_has_5 (by decide) ?_
  refine lv_icmp_ne (tgt := 13) hx hb dX11_has_6 (by decide) (fun c1 => ?_) (fun c1 => ?_)
  · replace hf := hf.1 c1
    refine lv_iconst (v := 0) hx hb dX11_has_13 (by decide) ?_
    exact x_zret C hret (by decide) hw ⟨hf, by decide⟩ dX11_has_14
  · replace hf := hf.2 c1
    refine lv_iconst (v := 1) hx hb dX11_has_9 (by decide) ?_
    refine lv_goto (tgt := 14) hx hb dX11_has_10 (by decide) ?_
    exact x_zret C hret (by decide) hw ⟨hf, by decide⟩ dX11_has_14
-- X11_isSheet
abbrev rmX11_isSheet : Room := { frames := 1, cells := 0, slots := 0, locals := 22 }
def fX11_isSheet (N : Nat) (σ : St) (a0 : Int32) (Q : Int32 → St → Prop) : Prop := fX11_in N σ a0 (0 : Int32) (3 : Int32) (fun (r2 : Int32) (σ1 : St) => Q r2 σ1)
set_option maxHeartbeats 4000000 in
set_option maxRecDepth 100000 in
theorem eX11_isSheet {l : Launch} {E : EC} {lay : Nat → Nat → Nat} {L : List (Nat × Nat)} {A : Nat → Prop} {N : Nat} {σ : St} {a0 : Int32} {Q : Int32 → St → Prop} (hf : fX11_isSheet N σ a0 Q) : Met l yX11_isSheet (.code yX11_isSheet cX11_isSheet 1 (some .boolean) :: big) rmX11_isSheet (va_Pc [.int a0] (Bp E lay L A σ)) (va_Qi (fun r u => Q r u ∧ narrow .boolean (.int r) = .int r) (Bd E lay L A) A) 0 0 A := by
  refine x_met (by decide +kernel) (Nat.le_of_ble_eq_true rfl) ?_
  intro p e s m args below meth c ls C hret hw hl
  have hx := C.1
  have hb := C.2.1
  have hl : lv_has ls 1 [(0, .int a0)] := hl
  unfold fX11_isSheet at hf
  refine lv_iload_n hx hb dX11_isSheet_0 rfl (lv_at hl 0 rfl) ?_
  refine lv_iconst (v := 0) hx hb dX11_isSheet_1 (by decide) ?_
  refine lv_iconst (v := 3) hx hb dX11_isSheet_2 (by decide) ?_
  refine x_runi hw (x_S (n := 3) (rest := []) C hw (eX11_in hf) q984 q985 q53 q986 rfl rfl (by decide +kernel) ⟨Nat.le_of_ble_eq_true rfl, Nat.le_of_ble_eq_true rfl⟩ rfl hl.1 rfl (Nat.le_of_ble_eq_true rfl) dX11_isSheet_3) (fun r2 σ1 H locs hf hw => ?_)
  have hzr2 := hf.2
  replace hf := hf.1
  try dsimp only at hf
  exact x_zret C hret hzr2 hw ⟨hf, hzr2⟩ dX11_isSheet_6
-- X11_looked
abbrev rmX11_looked : Room := { frames := 2, cells := 0, slots := 0, locals := 42 }
def fX11_looked (N : Nat) (σ : St) (a1 : Int32) (Q : Int32 → St → Prop) : Prop := fX11_isSheet N σ a1 (fun (r2 : Int32) (σ1 : St) => ((¬ r2 = 0 → (vp_in a1 4 ∧ ((0 ≤ (sA σ1 63 0 (a1).toNatClampNeg) → Q (0 : Int32) σ1) ∧ (¬ 0 ≤ (sA σ1 63 0 (a1).toNatClampNeg) → fX11_meets N σ1 (1 : Int32) (fun (r7 : Int32) (σ6 : St) => Q r7 σ6))))) ∧ (r2 = 0 → Q (-1 : Int32) σ1)))
set_option maxHeartbeats 4000000 in
set_option maxRecDepth 100000 in
theorem eX11_looked {l : Launch} {E : EC} {lay : Nat → Nat → Nat} {L : List (Nat × Nat)} {A : Nat → Prop} {N : Nat} {σ : St} {a1 : Int32} {Q : Int32 → St → Prop} (hf : fX11_looked N σ a1 Q) (hm0 : (11, 0) ∈ L) : Met l yX11_looked (.code yX11_looked cX11_looked 2 (some .int) :: big) rmX11_looked (va_Pc [.ref (lay 11 0), .int a1] (Bp E lay L A σ)) (va_Qi Q (Bd E lay L A) A) 0 0 A := by
  refine x_met (by decide +kernel) (Nat.le_of_ble_eq_true rfl) ?_
  intro p e s m args below meth c ls C hret hw hl
  have hx := C.1
  have hb := C.2.1
  have hl : lv_has ls 2 [(0, .ref (lay 11 0)), (1, .int a1)] := hl
  unfold fX11_looked at hf
  refine lv_iload_n hx hb dX11_looked_0 rfl (lv_at hl 1 rfl) ?_
  refine x_runi hw (x_S (n := 1) (rest := []) C hw (eX11_isSheet hf) q981 q982 q53 q983 rfl rfl (by decide +kernel) ⟨Nat.le_of_ble_eq_true rfl, Nat.le_of_ble_eq_true rfl⟩ rfl hl.1 rfl (Nat.le_of_ble_eq_true rfl) dX11_looked_1) (fun r2 σ1 H locs hf hw => ?_)
  have hzr2 := hf.2
  replace hf := hf.1
  try dsimp only at hf
  refine lv_if_ne (tgt := 11) hx hb dX11_looked_4 (by decide) (fun c3 => ?_) (fun c3 => ?_)
  · replace hf := hf.1 c3
    refine lv_aload_n hx hb dX11_looked_11 rfl (lv_at hl 0 rfl) ?_
    have hm_4 : (63, 0) ∈ L := hw.2.2.2.1 11 0 hm0 3 (by decide) (by decide) rfl
    refine x_get (v := .ref (lay 63 0)) (j := 3) C hw hm0 rfl (by decide) (by decide) rfl q883 dX11_looked_12 ?_
    refine lv_iload_n hx hb dX11_looked_15 rfl (lv_at hl 1 rfl) ?_
    refine x_iald C hw hm_4 (by decide) rfl hf.1 dX11_looked_16 ?_
    replace hf := hf.2
    refine lv_if_ge (tgt := 28) hx hb dX11_looked_17 (by decide) (fun c5 => ?_) (fun c5 => ?_)
    · replace hf := hf.1 c5
      refine lv_iconst (v := 0) hx hb dX11_looked_28 (by decide) ?_
      exact x_iret C hret hw hf dX11_looked_29
    · replace hf := hf.2 c5
      refine lv_aload_n hx hb dX11_looked_20 rfl (lv_at hl 0 rfl) ?_
      refine lv_iconst (v := 1) hx hb dX11_looked_21 (by decide) ?_
      refine x_runi hw (x_V (n := 1) (rest := []) C hw hm0 (by decide) (eX11_meets hf hm0) q987 q989 q22 q53 q990 rfl rfl (by decide +kernel) ⟨Nat.le_of_ble_eq_true rfl, Nat.le_of_ble_eq_true rfl⟩ rfl hl.1 rfl (Nat.le_of_ble_eq_true rfl) dX11_looked_22) (fun r7 σ6 H locs hf hw => ?_)
      try dsimp only at hf
      refine lv_goto (tgt := 29) hx hb dX11_looked_25 (by decide) ?_
      exact x_iret C hret hw hf dX11_looked_29
  · replace hf := hf.2 c3
    refine lv_iconst (v := (-1)) hx hb dX11_looked_7 (by decide) ?_
    refine lv_goto (tgt := 29) hx hb dX11_looked_8 (by decide) ?_
    exact x_iret C hret hw hf dX11_looked_29
-- X11_sheet
abbrev rmX11_sheet : Room := { frames := 2, cells := 0, slots := 0, locals := 42 }
def fX11_sheet_l35 (N : Nat) (a1 : Int32) (a2 : Int32) (Q : Int32 → St → Prop) (Kx62 : St → Prop) : Nat → St → Int32 → Prop
  | 0, _, _ => False
  | n + 1, σ, v3 => (((200 : Int32) ≤ v3 → Kx62 σ) ∧ (¬ (200 : Int32) ≤ v3 → (vp_in (((200 : Int32) * a1) + v3) 800 ∧ ∀ σ10 : St, σ10 = setA σ 64 0 ((((200 : Int32) * a1) + v3)).toNatClampNeg (32 : Int32) → fX11_sheet_l35 N a1 a2 Q Kx62 n σ10 (v3 + (1 : Int32)))))
set_option maxHeartbeats 4000000 in
set_option maxRecDepth 100000 in
theorem eX11_sheet_l35 {p : Program} {l : Launch} {e : Env} {s : State} {m : MethodId} {args : Array Value} {below : List Frame} {meth : Method} {c : Code} {E : EC} {lay : Nat → Nat → Nat} {L : List (Nat × Nat)} {A : Nat → Prop} (C : Cx p s m args c meth yX11_sheet.cls cX11_sheet 4 E A) (hret : meth.sig.returnType = some .int) {N : Nat} {a1 : Int32} {a2 : Int32} {Q : Int32 → St → Prop} {Kx62 : St → Prop} (hm0 : (11, 0) ∈ L) (hK62 : ∀ (σ : St) (H : Heap) (locs : List Loc) (ls : Array Slot), Kx62 σ → Wo E lay L A s σ H locs → lv_has ls 4 [(2, .int a2)] → W p l e rmX11_sheet s m args below meth c H locs 0 0 (MQ below (va_Qi Q (Bd E lay L A) A) args s 0 0 A) (F0 m 62 ls [])) : ∀ (n : Nat) (σ : St) (v3 : Int32) (H : Heap) (locs : List Loc) (ls : Array Slot), fX11_sheet_l35 N a1 a2 Q Kx62 n σ v3 → Wo E lay L A s σ H locs → lv_has ls 4 [(0, .ref (lay 11 0)), (1, .int a1), (2, .int a2), (3, .int v3)] → W p l e rmX11_sheet s m args below meth c H locs 0 0 (MQ below (va_Qi Q (Bd E lay L A) A) args s 0 0 A) (F0 m 35 ls []) := by
  have hx := C.1
  have hb := C.2.1
  intro n
  induction n with
  | zero => intro σ v3 H locs ls hf; exact hf.elim
  | succ n ih =>
    intro σ v3 H locs ls hf hw hl
    rw [fX11_sheet_l35] at hf
    refine lv_iload_n hx hb dX11_sheet_35 rfl (lv_at hl 3 rfl) ?_
    refine lv_sipush (v := 200) hx hb dX11_sheet_36 (by decide) ?_
    refine lv_icmp_ge (tgt := 62) hx hb dX11_sheet_39 (by decide) (fun c8 => ?_) (fun c8 => ?_)
    · replace hf := hf.1 c8
      exact hK62 σ _ _ _ hf hw (lv_sub hl [2] rfl)
    · replace hf := hf.2 c8
      refine lv_aload_n hx hb dX11_sheet_42 rfl (lv_at hl 0 rfl) ?_
      have hm_9 : (64, 0) ∈ L := hw.2.2.2.1 11 0 hm0 4 (by decide) (by decide) rfl
      refine x_get (v := .ref (lay 64 0)) (j := 4) C hw hm0 rfl (by decide) (by decide) rfl q884 dX11_sheet_43 ?_
      refine lv_sipush (v := 200) hx hb dX11_sheet_46 (by decide) ?_
      refine lv_iload_n hx hb dX11_sheet_49 rfl (lv_at hl 1 rfl) ?_
      refine lv_imul hx hb dX11_sheet_50 ?_
      refine lv_iload_n hx hb dX11_sheet_51 rfl (lv_at hl 3 rfl) ?_
      refine lv_iadd hx hb dX11_sheet_52 ?_
      refine lv_bipush (v := 32) hx hb dX11_sheet_53 (by decide) ?_
      refine x_iast C hw hm_9 (by decide) rfl hf.1 dX11_sheet_55 (fun σ10 H locs eσ10 hw => ?_)
      replace hf := hf.2 σ10 eσ10
      refine lv_iinc (v := (v3 + (1 : Int32))) (lv' := [(3, .int (v3 + (1 : Int32))), (0, .ref (lay 11 0)), (1, .int a1), (2, .int a2)]) hx hb dX11_sheet_56 hl (k := 3) rfl (by rfl) (by decide) rfl (fun ls hl => ?_)
      refine lv_goto (tgt := 35) hx hb dX11_sheet_59 (by decide) ?_
      exact ih σ10 (v3 + (1 : Int32)) _ _ _ hf hw (lv_sub hl [1, 2, 3, 0] rfl)
def fX11_sheet (N : Nat) (σ : St) (a1 : Int32) (a2 : Int32) (Q : Int32 → St → Prop) : Prop := fX11_isSheet N σ a1 (fun (r2 : Int32) (σ1 : St) => ((r2 = 0 → Q (-1 : Int32) σ1) ∧ (¬ r2 = 0 → ((a2 ≤ (200 : Int32) → ((0 ≤ a2 → (vp_in a1 4 ∧ ∀ σ7 : St, σ7 = setA σ1 63 0 (a1).toNatClampNeg a2 → fX11_sheet_l35 N a1 a2 Q (fun (σ11 : St) => Q a2 σ11) N σ7 (0 : Int32))) ∧ (¬ 0 ≤ a2 → fX11_meets N σ1 (5 : Int32) (fun (r13 : Int32) (σ12 : St) => Q r13 σ12)))) ∧ (¬ a2 ≤ (200 : Int32) → Q (-1 : Int32) σ1)))))
set_option maxHeartbeats 4000000 in
set_option maxRecDepth 100000 in
theorem eX11_sheet {l : Launch} {E : EC} {lay : Nat → Nat → Nat} {L : List (Nat × Nat)} {A : Nat → Prop} {N : Nat} {σ : St} {a1 : Int32} {a2 : Int32} {Q : Int32 → St → Prop} (hf : fX11_sheet N σ a1 a2 Q) (hm0 : (11, 0) ∈ L) : Met l yX11_sheet (.code yX11_sheet cX11_sheet 4 (some .int) :: big) rmX11_sheet (va_Pc [.ref (lay 11 0), .int a1, .int a2] (Bp E lay L A σ)) (va_Qi Q (Bd E lay L A) A) 0 0 A := by
  refine x_met (by decide +kernel) (Nat.le_of_ble_eq_true rfl) ?_
  intro p e s m args below meth c ls C hret hw hl
  have hx := C.1
  have hb := C.2.1
  have hl : lv_has ls 4 [(0, .ref (lay 11 0)), (1, .int a1), (2, .int a2)] := hl
  unfold fX11_sheet at hf
  refine lv_iload_n hx hb dX11_sheet_0 rfl (lv_at hl 1 rfl) ?_
  refine x_runi hw (x_S (n := 1) (rest := []) C hw (eX11_isSheet hf) q981 q982 q53 q983 rfl rfl (by decide +kernel) ⟨Nat.le_of_ble_eq_true rfl, Nat.le_of_ble_eq_true rfl⟩ rfl hl.1 rfl (Nat.le_of_ble_eq_true rfl) dX11_sheet_1) (fun r2 σ1 H locs hf hw => ?_)
  have hzr2 := hf.2
  replace hf := hf.1
  try dsimp only at hf
  refine lv_if_eq (tgt := 14) hx hb dX11_sheet_4 (by decide) (fun c3 => ?_) (fun c3 => ?_)
  · replace hf := hf.1 c3
    refine lv_iconst (v := (-1)) hx hb dX11_sheet_14 (by decide) ?_
    exact x_iret C hret hw hf dX11_sheet_15
  · replace hf := hf.2 c3
    refine lv_iload_n hx hb dX11_sheet_7 rfl (lv_at hl 2 rfl) ?_
    refine lv_sipush (v := 200) hx hb dX11_sheet_8 (by decide) ?_
    refine lv_icmp_le (tgt := 16) hx hb dX11_sheet_11 (by decide) (fun c4 => ?_) (fun c4 => ?_)
    · replace hf := hf.1 c4
      refine lv_iload_n hx hb dX11_sheet_16 rfl (lv_at hl 2 rfl) ?_
      refine lv_if_ge (tgt := 26) hx hb dX11_sheet_17 (by decide) (fun c5 => ?_) (fun c5 => ?_)
      · replace hf := hf.1 c5
        refine lv_aload_n hx hb dX11_sheet_26 rfl (lv_at hl 0 rfl) ?_
        have hm_6 : (63, 0) ∈ L := hw.2.2.2.1 11 0 hm0 3 (by decide) (by decide) rfl
        refine x_get (v := .ref (lay 63 0)) (j := 3) C hw hm0 rfl (by decide) (by decide) rfl q883 dX11_sheet_27 ?_
        refine lv_iload_n hx hb dX11_sheet_30 rfl (lv_at hl 1 rfl) ?_
        refine lv_iload_n hx hb dX11_sheet_31 rfl (lv_at hl 2 rfl) ?_
        refine x_iast C hw hm_6 (by decide) rfl hf.1 dX11_sheet_32 (fun σ7 H locs eσ7 hw => ?_)
        replace hf := hf.2 σ7 eσ7
        refine lv_iconst (v := 0) hx hb dX11_sheet_33 (by decide) ?_
        refine lv_istore_n (lv' := [(3, .int (0 : Int32)), (0, .ref (lay 11 0)), (1, .int a1), (2, .int a2)]) hx hb dX11_sheet_34 rfl hl (by decide) rfl (fun ls hl => ?_)
        refine eX11_sheet_l35 C hret hm0 ?_ N σ7 (0 : Int32) _ _ _ hf hw (lv_sub hl [1, 2, 3, 0] rfl)
        · intro σ11 H locs ls hf hw hl
          refine lv_iload_n hx hb dX11_sheet_62 rfl (lv_at hl 0 rfl) ?_
          exact x_iret C hret hw hf dX11_sheet_63
      · replace hf := hf.2 c5
        refine lv_aload_n hx hb dX11_sheet_20 rfl (lv_at hl 0 rfl) ?_
        refine lv_iconst (v := 5) hx hb dX11_sheet_21 (by decide) ?_
        refine x_runi hw (x_V (n := 1) (rest := []) C hw hm0 (by decide) (eX11_meets hf hm0) q987 q989 q22 q53 q990 rfl rfl (by decide +kernel) ⟨Nat.le_of_ble_eq_true rfl, Nat.le_of_ble_eq_true rfl⟩ rfl hl.1 rfl (Nat.le_of_ble_eq_true rfl) dX11_sheet_22) (fun r13 σ12 H locs hf hw => ?_)
        try dsimp only at hf
        exact x_iret C hret hw hf dX11_sheet_25
    · replace hf := hf.2 c4
      refine lv_iconst (v := (-1)) hx hb dX11_sheet_14 (by decide) ?_
      exact x_iret C hret hw hf dX11_sheet_15
-- X11_lay
abbrev rmX11_lay : Room := { frames := 3, cells := 0, slots := 0, locals := 63 }
def fX11_lay (N : Nat) (σ : St) (a1 : Int32) (a2 : Int32) (a3 : Int32) (Q : Int32 → St → Prop) : Prop := fX11_looked N σ a1 (fun (r2 : Int32) (σ1 : St) => ((0 ≤ r2 → (vp_in a1 4 ∧ fX11_in N σ1 a2 (0 : Int32) ((sA σ1 63 0 (a1).toNatClampNeg) - (1 : Int32)) (fun (r6 : Int32) (σ5 : St) => ((¬ r6 = 0 → (vp_in (((200 : Int32) * a1) + a2) 800 ∧ (vp_in (((200 : Int32) * a1) + a2) 800 ∧ ∀ σ10 : St, σ10 = setA σ5 64 0 ((((200 : Int32) * a1) + a2)).toNatClampNeg ((a3).toInt8.toInt32) → Q ((sA σ5 64 0 ((((200 : Int32) * a1) + a2)).toNatClampNeg) + (1000 : Int32)) σ10))) ∧ (r6 = 0 → fX11_meets N σ5 (2 : Int32) (fun (r12 : Int32) (σ11 : St) => Q r12 σ11)))))) ∧ (¬ 0 ≤ r2 → Q r2 σ1)))
set_option maxHeartbeats 4000000 in
set_option maxRecDepth 100000 in
theorem eX11_lay {l : Launch} {E : EC} {lay : Nat → Nat → Nat} {L : List (Nat × Nat)} {A : Nat → Prop} {N : Nat} {σ : St} {a1 : Int32} {a2 : Int32} {a3 : Int32} {Q : Int32 → St → Prop} (hf : fX11_lay N σ a1 a2 a3 Q) (hm0 : (11, 0) ∈ L) : Met l yX11_lay (.code yX11_lay cX11_lay 6 (some .int) :: big) rmX11_lay (va_Pc [.ref (lay 11 0), .int a1, .int a2, .int a3] (Bp E lay L A σ)) (va_Qi Q (Bd E lay L A) A) 0 0 A := by
  refine x_met (by decide +kernel) (Nat.le_of_ble_eq_true rfl) ?_
  intro p e s m args below meth c ls C hret hw hl
  have hx := C.1
  have hb := C.2.1
  have hl : lv_has ls 6 [(0, .ref (lay 11 0)), (1, .int a1), (2, .int a2), (3, .int a3)] := hl
  unfold fX11_lay at hf
  refine lv_aload_n hx hb dX11_lay_0 rfl (lv_at hl 0 rfl) ?_
  refine lv_iload_n hx hb dX11_lay_1 rfl (lv_at hl 1 rfl) ?_
  refine x_runi hw (x_V (n := 1) (rest := []) C hw hm0 (by decide) (eX11_looked hf hm0) q995 q997 q23 q53 q998 rfl rfl (by decide +kernel) ⟨Nat.le_of_ble_eq_true rfl, Nat.le_of_ble_eq_true rfl⟩ rfl hl.1 rfl (Nat.le_of_ble_eq_true rfl) dX11_lay_2) (fun r2 σ1 H locs hf hw => ?_)
  try dsimp only at hf
  refine lv_istore (lv' := [(4, .int r2), (0, .ref (lay 11 0)), (1, .int a1), (2, .int a2), (3, .int a3)]) hx hb dX11_lay_5 hl (by decide) rfl (fun ls hl => ?_)
  refine lv_iload hx hb dX11_lay_7 (lv_at hl 0 rfl) ?_
  refine lv_if_ge (tgt := 15) hx hb dX11_lay_9 (by decide) (fun c3 => ?_) (fun c3 => ?_)
  · replace hf := hf.1 c3
    refine lv_iload_n hx hb dX11_lay_15 rfl (lv_at hl 3 rfl) ?_
    refine lv_iconst (v := 0) hx hb dX11_lay_16 (by decide) ?_
    refine lv_aload_n hx hb dX11_lay_17 rfl (lv_at hl 1 rfl) ?_
    have hm_4 : (63, 0) ∈ L := hw.2.2.2.1 11 0 hm0 3 (by decide) (by decide) rfl
    refine x_get (v := .ref (lay 63 0)) (j := 3) C hw hm0 rfl (by decide) (by decide) rfl q883 dX11_lay_18 ?_
    refine lv_iload_n hx hb dX11_lay_21 rfl (lv_at hl 2 rfl) ?_
    refine x_iald C hw hm_4 (by decide) rfl hf.1 dX11_lay_22 ?_
    replace hf := hf.2
    refine lv_iconst (v := 1) hx hb dX11_lay_23 (by decide) ?_
    refine lv_isub hx hb dX11_lay_24 ?_
    refine x_runi hw (x_S (n := 3) (rest := []) C hw (eX11_in hf) q984 q985 q53 q986 rfl rfl (by decide +kernel) ⟨Nat.le_of_ble_eq_true rfl, Nat.le_of_ble_eq_true rfl⟩ rfl hl.1 rfl (Nat.le_of_ble_eq_true rfl) dX11_lay_25) (fun r6 σ5 H locs hf hw => ?_)
    have hzr6 := hf.2
    replace hf := hf.1
    try dsimp only at hf
    refine lv_if_ne (tgt := 37) hx hb dX11_lay_28 (by decide) (fun c7 => ?_) (fun c7 => ?_)
    · replace hf := hf.1 c7
      refine lv_aload_n hx hb dX11_lay_37 rfl (lv_at hl 1 rfl) ?_
      have hm_8 : (64, 0) ∈ L := hw.2.2.2.1 11 0 hm0 4 (by decide) (by decide) rfl
      refine x_get (v := .ref (lay 64 0)) (j := 4) C hw hm0 rfl (by decide) (by decide) rfl q884 dX11_lay_38 ?_
      refine lv_sipush (v := 200) hx hb dX11_lay_41 (by decide) ?_
      refine lv_iload_n hx hb dX11_lay_44 rfl (lv_at hl 2 rfl) ?_
      refine lv_imul hx hb dX11_lay_45 ?_
      refine lv_iload_n hx hb dX11_lay_46 rfl (lv_at hl 3 rfl) ?_
      refine lv_iadd hx hb dX11_lay_47 ?_
      refine x_iald C hw hm_8 (by decide) rfl hf.1 dX11_lay_48 ?_
      replace hf := hf.2
      refine lv_istore (lv' := [(5, .int (sA σ5 64 0 ((((200 : Int32) * a1) + a2)).toNatClampNeg)), (4, .int r2), (0, .ref (lay 11 0)), (1, .int a1), (2, .int a2), (3, .int a3)]) hx hb dX11_lay_49 hl (by decide) rfl (fun ls hl => ?_)
      refine lv_aload_n hx hb dX11_lay_51 rfl (lv_at hl 2 rfl) ?_
      have hm_9 : (64, 0) ∈ L := hw.2.2.2.1 11 0 hm0 4 (by decide) (by decide) rfl
      refine x_get (v := .ref (lay 64 0)) (j := 4) C hw hm0 rfl (by decide) (by decide) rfl q884 dX11_lay_52 ?_
      refine lv_sipush (v := 200) hx hb dX11_lay_55 (by decide) ?_
      refine lv_iload_n hx hb dX11_lay_58 rfl (lv_at hl 3 rfl) ?_
      refine lv_imul hx hb dX11_lay_59 ?_
      refine lv_iload_n hx hb dX11_lay_60 rfl (lv_at hl 4 rfl) ?_
      refine lv_iadd hx hb dX11_lay_61 ?_
      refine lv_iload_n hx hb dX11_lay_62 rfl (lv_at hl 5 rfl) ?_
      refine lv_i2b hx hb dX11_lay_63 rfl ?_
      refine x_iast C hw hm_9 (by decide) rfl hf.1 dX11_lay_64 (fun σ10 H locs eσ10 hw => ?_)
      replace hf := hf.2 σ10 eσ10
      refine lv_iload hx hb dX11_lay_65 (lv_at hl 0 rfl) ?_
      refine lv_sipush (v := 1000) hx hb dX11_lay_67 (by decide) ?_
      refine lv_iadd hx hb dX11_lay_70 ?_
      exact x_iret C hret hw hf dX11_lay_71
    · replace hf := hf.2 c7
      refine lv_aload_n hx hb dX11_lay_31 rfl (lv_at hl 1 rfl) ?_
      refine lv_iconst (v := 2) hx hb dX11_lay_32 (by decide) ?_
      refine x_runi hw (x_V (n := 1) (rest := []) C hw hm0 (by decide) (eX11_meets hf hm0) q987 q989 q22 q53 q990 rfl rfl (by decide +kernel) ⟨Nat.le_of_ble_eq_true rfl, Nat.le_of_ble_eq_true rfl⟩ rfl hl.1 rfl (Nat.le_of_ble_eq_true rfl) dX11_lay_33) (fun r12 σ11 H locs hf hw => ?_)
      try dsimp only at hf
      exact x_iret C hret hw hf dX11_lay_36
  · replace hf := hf.2 c3
    refine lv_iload hx hb dX11_lay_12 (lv_at hl 0 rfl) ?_
    exact x_iret C hret hw hf dX11_lay_14
-- X11_tear
abbrev rmX11_tear : Room := { frames := 3, cells := 0, slots := 0, locals := 63 }
def fX11_tear (N : Nat) (σ : St) (a1 : Int32) (Q : Int32 → St → Prop) : Prop := fX11_looked N σ a1 (fun (r2 : Int32) (σ1 : St) => ((0 ≤ r2 → (vp_in a1 4 ∧ ∀ σ5 : St, σ5 = setA σ1 63 0 (a1).toNatClampNeg (-9 : Int32) → Q (1 : Int32) σ5)) ∧ (¬ 0 ≤ r2 → Q r2 σ1)))
set_option maxHeartbeats 4000000 in
set_option maxRecDepth 100000 in
theorem eX11_tear {l : Launch} {E : EC} {lay : Nat → Nat → Nat} {L : List (Nat × Nat)} {A : Nat → Prop} {N : Nat} {σ : St} {a1 : Int32} {Q : Int32 → St → Prop} (hf : fX11_tear N σ a1 Q) (hm0 : (11, 0) ∈ L) : Met l yX11_tear (.code yX11_tear cX11_tear 3 (some .int) :: big) rmX11_tear (va_Pc [.ref (lay 11 0), .int a1] (Bp E lay L A σ)) (va_Qi Q (Bd E lay L A) A) 0 0 A := by
  refine x_met (by decide +kernel) (Nat.le_of_ble_eq_true rfl) ?_
  intro p e s m args below meth c ls C hret hw hl
  have hx := C.1
  have hb := C.2.1
  have hl : lv_has ls 3 [(0, .ref (lay 11 0)), (1, .int a1)] := hl
  unfold fX11_tear at hf
  refine lv_aload_n hx hb dX11_tear_0 rfl (lv_at hl 0 rfl) ?_
  refine lv_iload_n hx hb dX11_tear_1 rfl (lv_at hl 1 rfl) ?_
  refine x_runi hw (x_V (n := 1) (rest := []) C hw hm0 (by decide) (eX11_looked hf hm0) q995 q997 q23 q53 q998 rfl rfl (by decide +kernel) ⟨Nat.le_of_ble_eq_true rfl, Nat.le_of_ble_eq_true rfl⟩ rfl hl.1 rfl (Nat.le_of_ble_eq_true rfl) dX11_tear_2) (fun r2 σ1 H locs hf hw => ?_)
  try dsimp only at hf
  refine lv_istore_n (lv' := [(2, .int r2), (0, .ref (lay 11 0)), (1, .int a1)]) hx hb dX11_tear_5 rfl hl (by decide) rfl (fun ls hl => ?_)
  refine lv_iload_n hx hb dX11_tear_6 rfl (lv_at hl 0 rfl) ?_
  refine lv_if_ge (tgt := 12) hx hb dX11_tear_7 (by decide) (fun c3 => ?_) (fun c3 => ?_)
  · replace hf := hf.1 c3
    refine lv_aload_n hx hb dX11_tear_12 rfl (lv_at hl 1 rfl) ?_
    have hm_4 : (63, 0) ∈ L := hw.2.2.2.1 11 0 hm0 3 (by decide) (by decide) rfl
    refine x_get (v := .ref (lay 63 0)) (j := 3) C hw hm0 rfl (by decide) (by decide) rfl q883 dX11_tear_13 ?_
    refine lv_iload_n hx hb dX11_tear_16 rfl (lv_at hl 2 rfl) ?_
    refine lv_bipush (v := (-9)) hx hb dX11_tear_17 (by decide) ?_
    refine x_iast C hw hm_4 (by decide) rfl hf.1 dX11_tear_19 (fun σ5 H locs eσ5 hw => ?_)
    replace hf := hf.2 σ5 eσ5
    refine lv_iconst (v := 1) hx hb dX11_tear_20 (by decide) ?_
    exact x_iret C hret hw hf dX11_tear_21
  · replace hf := hf.2 c3
    refine lv_iload_n hx hb dX11_tear_10 rfl (lv_at hl 0 rfl) ?_
    exact x_iret C hret hw hf dX11_tear_11
-- X11_copy
abbrev rmX11_copy : Room := { frames := 2, cells := 0, slots := 0, locals := 42 }
def fX11_copy_b45 (N : Nat) (a1 : Int32) (a2 : Int32) (a3 : Int32) (a4 : Int32) (a5 : Int32) (Q : Int32 → St → Prop) (σ : St) : Prop := fX11_meets N σ (1 : Int32) (fun (r11 : Int32) (σ10 : St) => Q r11 σ10)
def fX11_copy_b95 (N : Nat) (a1 : Int32) (a2 : Int32) (a3 : Int32) (a4 : Int32) (a5 : Int32) (Q : Int32 → St → Prop) (σ : St) : Prop := fX11_meets N σ (2 : Int32) (fun (r16 : Int32) (σ15 : St) => Q r16 σ15)
def fX11_copy_l104 (N : Nat) (a1 : Int32) (a2 : Int32) (a3 : Int32) (a4 : Int32) (a5 : Int32) (Q : Int32 → St → Prop) (Kx139 : St → Prop) : Nat → St → Int32 → Prop
  | 0, _, _ => False
  | n + 1, σ, v6 => ((a5 ≤ v6 → Kx139 σ) ∧ (¬ a5 ≤ v6 → (vp_in ((((200 : Int32) * a1) + a2) + v6) 800 ∧ (vp_in v6 200 ∧ ∀ σ25 : St, σ25 = setA σ 65 0 (v6).toNatClampNeg (sA σ 64 0 (((((200 : Int32) * a1) + a2) + v6)).toNatClampNeg) → fX11_copy_l104 N a1 a2 a3 a4 a5 Q Kx139 n σ25 (v6 + (1 : Int32))))))
def fX11_copy_l142 (N : Nat) (a1 : Int32) (a2 : Int32) (a3 : Int32) (a4 : Int32) (a5 : Int32) (Q : Int32 → St → Prop) (Kx178 : St → Prop) : Nat → St → Int32 → Prop
  | 0, _, _ => False
  | n + 1, σ, v6 => ((a5 ≤ v6 → Kx178 σ) ∧ (¬ a5 ≤ v6 → (vp_in v6 200 ∧ (vp_in ((((200 : Int32) * a3) + a4) + v6) 800 ∧ ∀ σ30 : St, σ30 = setA σ 64 0 (((((200 : Int32) * a3) + a4) + v6)).toNatClampNeg (sA σ 65 0 (v6).toNatClampNeg) → fX11_copy_l142 N a1 a2 a3 a4 a5 Q Kx178 n σ30 (v6 + (1 : Int32))))))
set_option maxHeartbeats 4000000 in
set_option maxRecDepth 100000 in
theorem eX11_copy_b45 {p : Program} {l : Launch} {e : Env} {s : State} {m : MethodId} {args : Array Value} {below : List Frame} {meth : Method} {c : Code} {E : EC} {lay : Nat → Nat → Nat} {L : List (Nat × Nat)} {A : Nat → Prop} (C : Cx p s m args c meth yX11_copy.cls cX11_copy 7 E A) (hret : meth.sig.returnType = some .int) {N : Nat} {a1 : Int32} {a2 : Int32} {a3 : Int32} {a4 : Int32} {a5 : Int32} {Q : Int32 → St → Prop} (hm0 : (11, 0) ∈ L) (σ : St) (H : Heap) (locs : List Loc) (ls : Array Slot) (hf : fX11_copy_b45 N a1 a2 a3 a4 a5 Q σ) (hw : Wo E lay L A s σ H locs) (hl : lv_has ls 7 [(0, .ref (lay 11 0))]) : W p l e rmX11_copy s m args below meth c H locs 0 0 (MQ below (va_Qi Q (Bd E lay L A) A) args s 0 0 A) (F0 m 45 ls []) := by
  have hx := C.1
  have hb := C.2.1
  unfold fX11_copy_b45 at hf
  refine lv_aload_n hx hb dX11_copy_45 rfl (lv_at hl 0 rfl) ?_
  refine lv_iconst (v := 1) hx hb dX11_copy_46 (by decide) ?_
  refine x_runi hw (x_V (n := 1) (rest := []) C hw hm0 (by decide) (eX11_meets hf hm0) q987 q989 q22 q53 q990 rfl rfl (by decide +kernel) ⟨Nat.le_of_ble_eq_true rfl, Nat.le_of_ble_eq_true rfl⟩ rfl hl.1 rfl (Nat.le_of_ble_eq_true rfl) dX11_copy_47) (fun r11 σ10 H locs hf hw => ?_)
  try dsimp only at hf
  exact x_iret C hret hw hf dX11_copy_50
set_option maxHeartbeats 4000000 in
set_option maxRecDepth 100000 in
theorem eX11_copy_b95 {p : Program} {l : Launch} {e : Env} {s : State} {m : MethodId} {args : Array Value} {below : List Frame} {meth : Method} {c : Code} {E : EC} {lay : Nat → Nat → Nat} {L : List (Nat × Nat)} {A : Nat → Prop} (C : Cx p s m args c meth yX11_copy.cls cX11_copy 7 E A) (hret : meth.sig.returnType = some .int) {N : Nat} {a1 : Int32} {a2 : Int32} {a3 : Int32} {a4 : Int32} {a5 : Int32} {Q : Int32 → St → Prop} (hm0 : (11, 0) ∈ L) (σ : St) (H : Heap) (locs : List Loc) (ls : Array Slot) (hf : fX11_copy_b95 N a1 a2 a3 a4 a5 Q σ) (hw : Wo E lay L A s σ H locs) (hl : lv_has ls 7 [(0, .ref (lay 11 0))]) : W p l e rmX11_copy s m args below meth c H locs 0 0 (MQ below (va_Qi Q (Bd E lay L A) A) args s 0 0 A) (F0 m 95 ls []) := by
  have hx := C.1
  have hb := C.2.1
  unfold fX11_copy_b95 at hf
  refine lv_aload_n hx hb dX11_copy_95 rfl (lv_at hl 0 rfl) ?_
  refine lv_iconst (v := 2) hx hb dX11_copy_96 (by decide) ?_
  refine x_runi hw (x_V (n := 1) (rest := []) C hw hm0 (by decide) (eX11_meets hf hm0) q987 q989 q22 q53 q990 rfl rfl (by decide +kernel) ⟨Nat.le_of_ble_eq_true rfl, Nat.le_of_ble_eq_true rfl⟩ rfl hl.1 rfl (Nat.le_of_ble_eq_true rfl) dX11_copy_97) (fun r16 σ15 H locs hf hw => ?_)
  try dsimp only at hf
  exact x_iret C hret hw hf dX11_copy_100
set_option maxHeartbeats 4000000 in
set_option maxRecDepth 100000 in
theorem eX11_copy_l104 {p : Program} {l : Launch} {e : Env} {s : State} {m : MethodId} {args : Array Value} {below : List Frame} {meth : Method} {c : Code} {E : EC} {lay : Nat → Nat → Nat} {L : List (Nat × Nat)} {A : Nat → Prop} (C : Cx p s m args c meth yX11_copy.cls cX11_copy 7 E A) (hret : meth.sig.returnType = some .int) {N : Nat} {a1 : Int32} {a2 : Int32} {a3 : Int32} {a4 : Int32} {a5 : Int32} {Q : Int32 → St → Prop} {Kx139 : St → Prop} (hm0 : (11, 0) ∈ L) (hK139 : ∀ (σ : St) (H : Heap) (locs : List Loc) (ls : Array Slot), Kx139 σ → Wo E lay L A s σ H locs → lv_has ls 7 [(0, .ref (lay 11 0)), (3, .int a3), (4, .int a4), (5, .int a5)] → W p l e rmX11_copy s m args below meth c H locs 0 0 (MQ below (va_Qi Q (Bd E lay L A) A) args s 0 0 A) (F0 m 139 ls [])) : ∀ (n : Nat) (σ : St) (v6 : Int32) (H : Heap) (locs : List Loc) (ls : Array Slot), fX11_copy_l104 N a1 a2 a3 a4 a5 Q Kx139 n σ v6 → Wo E lay L A s σ H locs → lv_has ls 7 [(0, .ref (lay 11 0)), (1, .int a1), (2, .int a2), (3, .int a3), (4, .int a4), (5, .int a5), (6, .int v6)] → W p l e rmX11_copy s m args below meth c H locs 0 0 (MQ below (va_Qi Q (Bd E lay L A) A) args s 0 0 A) (F0 m 104 ls []) := by
  have hx := C.1
  have hb := C.2.1
  intro n
  induction n with
  | zero => intro σ v6 H locs ls hf; exact hf.elim
  | succ n ih =>
    intro σ v6 H locs ls hf hw hl
    rw [fX11_copy_l104] at hf
    refine lv_iload hx hb dX11_copy_104 (lv_at hl 6 rfl) ?_
    refine lv_iload hx hb dX11_copy_106 (lv_at hl 5 rfl) ?_
    refine lv_icmp_ge (tgt := 139) hx hb dX11_copy_108 (by decide) (fun c22 => ?_) (fun c22 => ?_)
    · replace hf := hf.1 c22
      exact hK139 σ _ _ _ hf hw (lv_sub hl [0, 3, 4, 5] rfl)
    · replace hf := hf.2 c22
      refine lv_aload_n hx hb dX11_copy_111 rfl (lv_at hl 0 rfl) ?_
      have hm_23 : (65, 0) ∈ L := hw.2.2.2.1 11 0 hm0 5 (by decide) (by decide) rfl
      refine x_get (v := .ref (lay 65 0)) (j := 5) C hw hm0 rfl (by decide) (by decide) rfl q885 dX11_copy_112 ?_
      refine lv_iload hx hb dX11_copy_115 (lv_at hl 6 rfl) ?_
      refine lv_aload_n hx hb dX11_copy_117 rfl (lv_at hl 0 rfl) ?_
      have hm_24 : (64, 0) ∈ L := hw.2.2.2.1 11 0 hm0 4 (by decide) (by decide) rfl
      refine x_get (v := .ref (lay 64 0)) (j := 4) C hw hm0 rfl (by decide) (by decide) rfl q884 dX11_copy_118 ?_
      refine lv_sipush (v := 200) hx hb dX11_copy_121 (by decide) ?_
      refine lv_iload_n hx hb dX11_copy_124 rfl (lv_at hl 1 rfl) ?_
      refine lv_imul hx hb dX11_copy_125 ?_
      refine lv_iload_n hx hb dX11_copy_126 rfl (lv_at hl 2 rfl) ?_
      refine lv_iadd hx hb dX11_copy_127 ?_
      refine lv_iload hx hb dX11_copy_128 (lv_at hl 6 rfl) ?_
      refine lv_iadd hx hb dX11_copy_130 ?_
      refine x_iald C hw hm_24 (by decide) rfl hf.1 dX11_copy_131 ?_
      replace hf := hf.2
      refine x_iast C hw hm_23 (by decide) rfl hf.1 dX11_copy_132 (fun σ25 H locs eσ25 hw => ?_)
      replace hf := hf.2 σ25 eσ25
      refine lv_iinc (v := (v6 + (1 : Int32))) (lv' := [(6, .int (v6 + (1 : Int32))), (0, .ref (lay 11 0)), (1, .int a1), (2, .int a2), (3, .int a3), (4, .int a4), (5, .int a5)]) hx hb dX11_copy_133 hl (k := 6) rfl (by rfl) (by decide) rfl (fun ls hl => ?_)
      refine lv_goto (tgt := 104) hx hb dX11_copy_136 (by decide) ?_
      exact ih σ25 (v6 + (1 : Int32)) _ _ _ hf hw (lv_sub hl [1, 2, 3, 4, 5, 6, 0] rfl)
set_option maxHeartbeats 4000000 in
set_option maxRecDepth 100000 in
theorem eX11_copy_l142 {p : Program} {l : Launch} {e : Env} {s : State} {m : MethodId} {args : Array Value} {below : List Frame} {meth : Method} {c : Code} {E : EC} {lay : Nat → Nat → Nat} {L : List (Nat × Nat)} {A : Nat → Prop} (C : Cx p s m args c meth yX11_copy.cls cX11_copy 7 E A) (hret : meth.sig.returnType = some .int) {N : Nat} {a1 : Int32} {a2 : Int32} {a3 : Int32} {a4 : Int32} {a5 : Int32} {Q : Int32 → St → Prop} {Kx178 : St → Prop} (hm0 : (11, 0) ∈ L) (hK178 : ∀ (σ : St) (H : Heap) (locs : List Loc) (ls : Array Slot), Kx178 σ → Wo E lay L A s σ H locs → lv_has ls 7 [] → W p l e rmX11_copy s m args below meth c H locs 0 0 (MQ below (va_Qi Q (Bd E lay L A) A) args s 0 0 A) (F0 m 178 ls [])) : ∀ (n : Nat) (σ : St) (v6 : Int32) (H : Heap) (locs : List Loc) (ls : Array Slot), fX11_copy_l142 N a1 a2 a3 a4 a5 Q Kx178 n σ v6 → Wo E lay L A s σ H locs → lv_has ls 7 [(0, .ref (lay 11 0)), (3, .int a3), (4, .int a4), (5, .int a5), (6, .int v6)] → W p l e rmX11_copy s m args below meth c H locs 0 0 (MQ below (va_Qi Q (Bd E lay L A) A) args s 0 0 A) (F0 m 142 ls []) := by
  have hx := C.1
  have hb := C.2.1
  intro n
  induction n with
  | zero => intro σ v6 H locs ls hf; exact hf.elim
  | succ n ih =>
    intro σ v6 H locs ls hf hw hl
    rw [fX11_copy_l142] at hf
    refine lv_iload hx hb dX11_copy_142 (lv_at hl 4 rfl) ?_
    refine lv_iload hx hb dX11_copy_144 (lv_at hl 3 rfl) ?_
    refine lv_icmp_ge (tgt := 178) hx hb dX11_copy_146 (by decide) (fun c27 => ?_) (fun c27 => ?_)
    · replace hf := hf.1 c27
      exact hK178 σ _ _ _ hf hw (lv_sub hl [] rfl)
    · replace hf := hf.2 c27
      refine lv_aload_n hx hb dX11_copy_149 rfl (lv_at hl 0 rfl) ?_
      have hm_28 : (64, 0) ∈ L := hw.2.2.2.1 11 0 hm0 4 (by decide) (by decide) rfl
      refine x_get (v := .ref (lay 64 0)) (j := 4) C hw hm0 rfl (by decide) (by decide) rfl q884 dX11_copy_150 ?_
      refine lv_sipush (v := 200) hx hb dX11_copy_153 (by decide) ?_
      refine lv_iload_n hx hb dX11_copy_156 rfl (lv_at hl 1 rfl) ?_
      refine lv_imul hx hb dX11_copy_157 ?_
      refine lv_iload hx hb dX11_copy_158 (lv_at hl 2 rfl) ?_
      refine lv_iadd hx hb dX11_copy_160 ?_
      refine lv_iload hx hb dX11_copy_161 (lv_at hl 4 rfl) ?_
      refine lv_iadd hx hb dX11_copy_163 ?_
      refine lv_aload_n hx hb dX11_copy_164 rfl (lv_at hl 0 rfl) ?_
      have hm_29 : (65, 0) ∈ L := hw.2.2.2.1 11 0 hm0 5 (by decide) (by decide) rfl
      refine x_get (v := .ref (lay 65 0)) (j := 5) C hw hm0 rfl (by decide) (by decide) rfl q885 dX11_copy_165 ?_
      refine lv_iload hx hb dX11_copy_168 (lv_at hl 4 rfl) ?_
      refine x_iald C hw hm_29 (by decide) rfl hf.1 dX11_copy_170 ?_
      replace hf := hf.2
      refine x_iast C hw hm_28 (by decide) rfl hf.1 dX11_copy_171 (fun σ30 H locs eσ30 hw => ?_)
      replace hf := hf.2 σ30 eσ30
      refine lv_iinc (v := (v6 + (1 : Int32))) (lv' := [(6, .int (v6 + (1 : Int32))), (0, .ref (lay 11 0)), (3, .int a3), (4, .int a4), (5, .int a5)]) hx hb dX11_copy_172 hl (k := 4) rfl (by rfl) (by decide) rfl (fun ls hl => ?_)
      refine lv_goto (tgt := 142) hx hb dX11_copy_175 (by decide) ?_
      exact ih σ30 (v6 + (1 : Int32)) _ _ _ hf hw (lv_sub hl [1, 2, 3, 4, 0] rfl)
def fX11_copy (N : Nat) (σ : St) (a1 : Int32) (a2 : Int32) (a3 : Int32) (a4 : Int32) (a5 : Int32) (Q : Int32 → St → Prop) : Prop := fX11_isSheet N σ a1 (fun (r2 : Int32) (σ1 : St) => ((r2 = 0 → Q (-1 : Int32) σ1) ∧ (¬ r2 = 0 → fX11_isSheet N σ1 a3 (fun (r5 : Int32) (σ4 : St) => ((¬ r5 = 0 → ((0 ≤ a5 → (vp_in a1 4 ∧ (((sA σ4 63 0 (a1).toNatClampNeg) < 0 → fX11_copy_b45 N a1 a2 a3 a4 a5 Q σ4) ∧ (¬ (sA σ4 63 0 (a1).toNatClampNeg) < 0 → (vp_in a3 4 ∧ ((0 ≤ (sA σ4 63 0 (a3).toNatClampNeg) → ((a2 < 0 → fX11_copy_b95 N a1 a2 a3 a4 a5 Q σ4) ∧ (¬ a2 < 0 → ((a4 < 0 → fX11_copy_b95 N a1 a2 a3 a4 a5 Q σ4) ∧ (¬ a4 < 0 → (vp_in a1 4 ∧ ((0 < (lg_cmp (((a2).toInt64) + ((a5).toInt64)) (((sA σ4 63 0 (a1).toNatClampNeg)).toInt64)) → fX11_copy_b95 N a1 a2 a3 a4 a5 Q σ4) ∧ (¬ 0 < (lg_cmp (((a2).toInt64) + ((a5).toInt64)) (((sA σ4 63 0 (a1).toNatClampNeg)).toInt64)) → (vp_in a3 4 ∧ (((lg_cmp (((a4).toInt64) + ((a5).toInt64)) (((sA σ4 63 0 (a3).toNatClampNeg)).toInt64)) ≤ 0 → fX11_copy_l104 N a1 a2 a3 a4 a5 Q (fun (σ26 : St) => fX11_copy_l142 N a1 a2 a3 a4 a5 Q (fun (σ31 : St) => Q (1 : Int32) σ31) N σ26 (0 : Int32)) N σ4 (0 : Int32)) ∧ (¬ (lg_cmp (((a4).toInt64) + ((a5).toInt64)) (((sA σ4 63 0 (a3).toNatClampNeg)).toInt64)) ≤ 0 → fX11_copy_b95 N a1 a2 a3 a4 a5 Q σ4))))))))))) ∧ (¬ 0 ≤ (sA σ4 63 0 (a3).toNatClampNeg) → fX11_copy_b45 N a1 a2 a3 a4 a5 Q σ4))))))) ∧ (¬ 0 ≤ a5 → fX11_meets N σ4 (5 : Int32) (fun (r33 : Int32) (σ32 : St) => Q r33 σ32)))) ∧ (r5 = 0 → Q (-1 : Int32) σ4))))))
set_option maxHeartbeats 4000000 in
set_option maxRecDepth 100000 in
theorem eX11_copy {l : Launch} {E : EC} {lay : Nat → Nat → Nat} {L : List (Nat × Nat)} {A : Nat → Prop} {N : Nat} {σ : St} {a1 : Int32} {a2 : Int32} {a3 : Int32} {a4 : Int32} {a5 : Int32} {Q : Int32 → St → Prop} (hf : fX11_copy N σ a1 a2 a3 a4 a5 Q) (hm0 : (11, 0) ∈ L) : Met l yX11_copy (.code yX11_copy cX11_copy 7 (some .int) :: big) rmX11_copy (va_Pc [.ref (lay 11 0), .int a1, .int a2, .int a3, .int a4, .int a5] (Bp E lay L A σ)) (va_Qi Q (Bd E lay L A) A) 0 0 A := by
  refine x_met (by decide +kernel) (Nat.le_of_ble_eq_true rfl) ?_
  intro p e s m args below meth c ls C hret hw hl
  have hx := C.1
  have hb := C.2.1
  have hl : lv_has ls 7 [(0, .ref (lay 11 0)), (1, .int a1), (2, .int a2), (3, .int a3), (4, .int a4), (5, .int a5)] := hl
  unfold fX11_copy at hf
  refine lv_iload_n hx hb dX11_copy_0 rfl (lv_at hl 1 rfl) ?_
  refine x_runi hw (x_S (n := 1) (rest := []) C hw (eX11_isSheet hf) q981 q982 q53 q983 rfl rfl (by decide +kernel) ⟨Nat.le_of_ble_eq_true rfl, Nat.le_of_ble_eq_true rfl⟩ rfl hl.1 rfl (Nat.le_of_ble_eq_true rfl) dX11_copy_1) (fun r2 σ1 H locs hf hw => ?_)
  have hzr2 := hf.2
  replace hf := hf.1
  try dsimp only at hf
  refine lv_if_eq (tgt := 14) hx hb dX11_copy_4 (by decide) (fun c3 => ?_) (fun c3 => ?_)
  · replace hf := hf.1 c3
    refine lv_iconst (v := (-1)) hx hb dX11_copy_14 (by decide) ?_
    exact x_iret C hret hw hf dX11_copy_15
  · replace hf := hf.2 c3
    refine lv_iload_n hx hb dX11_copy_7 rfl (lv_at hl 3 rfl) ?_
    refine x_runi hw (x_S (n := 1) (rest := []) C hw (eX11_isSheet hf) q981 q982 q53 q983 rfl rfl (by decide +kernel) ⟨Nat.le_of_ble_eq_true rfl, Nat.le_of_ble_eq_true rfl⟩ rfl hl.1 rfl (Nat.le_of_ble_eq_true rfl) dX11_copy_8) (fun r5 σ4 H locs hf hw => ?_)
    have hzr5 := hf.2
    replace hf := hf.1
    try dsimp only at hf
    refine lv_if_ne (tgt := 16) hx hb dX11_copy_11 (by decide) (fun c6 => ?_) (fun c6 => ?_)
    · replace hf := hf.1 c6
      refine lv_iload hx hb dX11_copy_16 (lv_at hl 5 rfl) ?_
      refine lv_if_ge (tgt := 27) hx hb dX11_copy_18 (by decide) (fun c7 => ?_) (fun c7 => ?_)
      · replace hf := hf.1 c7
        refine lv_aload_n hx hb dX11_copy_27 rfl (lv_at hl 0 rfl) ?_
        have hm_8 : (63, 0) ∈ L := hw.2.2.2.1 11 0 hm0 3 (by decide) (by decide) rfl
        refine x_get (v := .ref (lay 63 0)) (j := 3) C hw hm0 rfl (by decide) (by decide) rfl q883 dX11_copy_28 ?_
        refine lv_iload_n hx hb dX11_copy_31 rfl (lv_at hl 1 rfl) ?_
        refine x_iald C hw hm_8 (by decide) rfl hf.1 dX11_copy_32 ?_
        replace hf := hf.2
        refine lv_if_lt (tgt := 45) hx hb dX11_copy_33 (by decide) (fun c9 => ?_) (fun c9 => ?_)
        · replace hf := hf.1 c9
          exact eX11_copy_b45 C hret hm0 σ4 _ _ _ hf hw (lv_sub hl [0] rfl)
        · replace hf := hf.2 c9
          refine lv_aload_n hx hb dX11_copy_36 rfl (lv_at hl 0 rfl) ?_
          have hm_12 : (63, 0) ∈ L := hw.2.2.2.1 11 0 hm0 3 (by decide) (by decide) rfl
          refine x_get (v := .ref (lay 63 0)) (j := 3) C hw hm0 rfl (by decide) (by decide) rfl q883 dX11_copy_37 ?_
          refine lv_iload_n hx hb dX11_copy_40 rfl (lv_at hl 3 rfl) ?_
          refine x_iald C hw hm_12 (by decide) rfl hf.1 dX11_copy_41 ?_
          replace hf := hf.2
          refine lv_if_ge (tgt := 51) hx hb dX11_copy_42 (by decide) (fun c13 => ?_) (fun c13 => ?_)
          · replace hf := hf.1 c13
            refine lv_iload_n hx hb dX11_copy_51 rfl (lv_at hl 2 rfl) ?_
            refine lv_if_lt (tgt := 95) hx hb dX11_copy_52 (by decide) (fun c14 => ?_) (fun c14 => ?_)
            · replace hf := hf.1 c14
              exact eX11_copy_b95 C hret hm0 σ4 _ _ _ hf hw (lv_sub hl [0] rfl)
            · replace hf := hf.2 c14
              refine lv_iload hx hb dX11_copy_55 (lv_at hl 4 rfl) ?_
              refine lv_if_lt (tgt := 95) hx hb dX11_copy_57 (by decide) (fun c17 => ?_) (fun c17 => ?_)
              · replace hf := hf.1 c17
                exact eX11_copy_b95 C hret hm0 σ4 _ _ _ hf hw (lv_sub hl [0] rfl)
              · replace hf := hf.2 c17
                refine lv_iload_n hx hb dX11_copy_60 rfl (lv_at hl 2 rfl) ?_
                refine lv_i2l hx hb dX11_copy_61 rfl ?_
                refine lv_iload hx hb dX11_copy_62 (lv_at hl 5 rfl) ?_
                refine lv_i2l hx hb dX11_copy_64 rfl ?_
                refine lv_ladd hx hb dX11_copy_65 ?_
                refine lv_aload_n hx hb dX11_copy_66 rfl (lv_at hl 0 rfl) ?_
                have hm_18 : (63, 0) ∈ L := hw.2.2.2.1 11 0 hm0 3 (by decide) (by decide) rfl
                refine x_get (v := .ref (lay 63 0)) (j := 3) C hw hm0 rfl (by decide) (by decide) rfl q883 dX11_copy_67 ?_
                refine lv_iload_n hx hb dX11_copy_70 rfl (lv_at hl 1 rfl) ?_
                refine x_iald C hw hm_18 (by decide) rfl hf.1 dX11_copy_71 ?_
                replace hf := hf.2
                refine lv_i2l hx hb dX11_copy_72 rfl ?_
                refine W.lcmp hx hb dX11_copy_73 ?_
                refine lv_if_gt (tgt := 95) hx hb dX11_copy_74 (by decide) (fun c19 => ?_) (fun c19 => ?_)
                · replace hf := hf.1 c19
                  exact eX11_copy_b95 C hret hm0 σ4 _ _ _ hf hw (lv_sub hl [0] rfl)
                · replace hf := hf.2 c19
                  refine lv_iload hx hb dX11_copy_77 (lv_at hl 4 rfl) ?_
                  refine lv_i2l hx hb dX11_copy_79 rfl ?_
                  refine lv_iload hx hb dX11_copy_80 (lv_at hl 5 rfl) ?_
                  refine lv_i2l hx hb dX11_copy_82 rfl ?_
                  refine lv_ladd hx hb dX11_copy_83 ?_
                  refine lv_aload_n hx hb dX11_copy_84 rfl (lv_at hl 0 rfl) ?_
                  have hm_20 : (63, 0) ∈ L := hw.2.2.2.1 11 0 hm0 3 (by decide) (by decide) rfl
                  refine x_get (v := .ref (lay 63 0)) (j := 3) C hw hm0 rfl (by decide) (by decide) rfl q883 dX11_copy_85 ?_
                  refine lv_iload_n hx hb dX11_copy_88 rfl (lv_at hl 3 rfl) ?_
                  refine x_iald C hw hm_20 (by decide) rfl hf.1 dX11_copy_89 ?_
                  replace hf := hf.2
                  refine lv_i2l hx hb dX11_copy_90 rfl ?_
                  refine W.lcmp hx hb dX11_copy_91 ?_
                  refine lv_if_le (tgt := 101) hx hb dX11_copy_92 (by decide) (fun c21 => ?_) (fun c21 => ?_)
                  · replace hf := hf.1 c21
                    refine lv_iconst (v := 0) hx hb dX11_copy_101 (by decide) ?_
                    refine lv_istore (lv' := [(6, .int (0 : Int32)), (0, .ref (lay 11 0)), (1, .int a1), (2, .int a2), (3, .int a3), (4, .int a4), (5, .int a5)]) hx hb dX11_copy_102 hl (by decide) rfl (fun ls hl => ?_)
                    refine eX11_copy_l104 C hret hm0 ?_ N σ4 (0 : Int32) _ _ _ hf hw (lv_sub hl [1, 2, 3, 4, 5, 6, 0] rfl)
                    · intro σ26 H locs ls hf hw hl
                      refine lv_iconst (v := 0) hx hb dX11_copy_139 (by decide) ?_
                      refine lv_istore (lv' := [(6, .int (0 : Int32)), (0, .ref (lay 11 0)), (3, .int a3), (4, .int a4), (5, .int a5)]) hx hb dX11_copy_140 hl (by decide) rfl (fun ls hl => ?_)
                      refine eX11_copy_l142 C hret hm0 ?_ N σ26 (0 : Int32) _ _ _ hf hw (lv_sub hl [1, 2, 3, 4, 0] rfl)
                      · intro σ31 H locs ls hf hw hl
                        refine lv_iconst (v := 1) hx hb dX11_copy_178 (by decide) ?_
                        exact x_iret C hret hw hf dX11_copy_179
                  · replace hf := hf.2 c21
                    exact eX11_copy_b95 C hret hm0 σ4 _ _ _ hf hw (lv_sub hl [0] rfl)
          · replace hf := hf.2 c13
            exact eX11_copy_b45 C hret hm0 σ4 _ _ _ hf hw (lv_sub hl [0] rfl)
      · replace hf := hf.2 c7
        refine lv_aload_n hx hb dX11_copy_21 rfl (lv_at hl 0 rfl) ?_
        refine lv_iconst (v := 5) hx hb dX11_copy_22 (by decide) ?_
        refine x_runi hw (x_V (n := 1) (rest := []) C hw hm0 (by decide) (eX11_meets hf hm0) q987 q989 q22 q53 q990 rfl rfl (by decide +kernel) ⟨Nat.le_of_ble_eq_true rfl, Nat.le_of_ble_eq_true rfl⟩ rfl hl.1 rfl (Nat.le_of_ble_eq_true rfl) dX11_copy_23) (fun r33 σ32 H locs hf hw => ?_)
        try dsimp only at hf
        exact x_iret C hret hw hf dX11_copy_26
    · replace hf := hf.2 c6
      refine lv_iconst (v := (-1)) hx hb dX11_copy_14 (by decide) ?_
      exact x_iret C hret hw hf dX11_copy_15
-- X11_small
abbrev rmX11_small : Room := { frames := 1, cells := 0, slots := 0, locals := 22 }
def fX11_small (N : Nat) (σ : St) (a0 : Int32) (Q : Int32 → St → Prop) : Prop := fX11_in N σ a0 (65 : Int32) (90 : Int32) (fun (r2 : Int32) (σ1 : St) => ((r2 = 0 → Q a0 σ1) ∧ (¬ r2 = 0 → Q (a0 + (32 : Int32)) σ1)))
set_option maxHeartbeats 4000000 in
set_option maxRecDepth 100000 in
theorem eX11_small {l : Launch} {E : EC} {lay : Nat → Nat → Nat} {L : List (Nat × Nat)} {A : Nat → Prop} {N : Nat} {σ : St} {a0 : Int32} {Q : Int32 → St → Prop} (hf : fX11_small N σ a0 Q) : Met l yX11_small (.code yX11_small cX11_small 1 (some .int) :: big) rmX11_small (va_Pc [.int a0] (Bp E lay L A σ)) (va_Qi Q (Bd E lay L A) A) 0 0 A := by
  refine x_met (by decide +kernel) (Nat.le_of_ble_eq_true rfl) ?_
  intro p e s m args below meth c ls C hret hw hl
  have hx := C.1
  have hb := C.2.1
  have hl : lv_has ls 1 [(0, .int a0)] := hl
  unfold fX11_small at hf
  refine lv_iload_n hx hb dX11_small_0 rfl (lv_at hl 0 rfl) ?_
  refine lv_bipush (v := 65) hx hb dX11_small_1 (by decide) ?_
  refine lv_bipush (v := 90) hx hb dX11_small_3 (by decide) ?_
  refine x_runi hw (x_S (n := 3) (rest := []) C hw (eX11_in hf) q984 q985 q53 q986 rfl rfl (by decide +kernel) ⟨Nat.le_of_ble_eq_true rfl, Nat.le_of_ble_eq_true rfl⟩ rfl hl.1 rfl (Nat.le_of_ble_eq_true rfl) dX11_small_5) (fun r2 σ1 H locs hf hw => ?_)
  have hzr2 := hf.2
  replace hf := hf.1
  try dsimp only at hf
  refine lv_if_eq (tgt := 18) hx hb dX11_small_8 (by decide) (fun c3 => ?_) (fun c3 => ?_)
  · replace hf := hf.1 c3
    refine lv_iload_n hx hb dX11_small_18 rfl (lv_at hl 0 rfl) ?_
    exact x_iret C hret hw hf dX11_small_19
  · replace hf := hf.2 c3
    refine lv_iload_n hx hb dX11_small_11 rfl (lv_at hl 0 rfl) ?_
    refine lv_bipush (v := 32) hx hb dX11_small_12 (by decide) ?_
    refine lv_iadd hx hb dX11_small_14 ?_
    refine lv_goto (tgt := 19) hx hb dX11_small_15 (by decide) ?_
    exact x_iret C hret hw hf dX11_small_19
-- X11_isLetter
abbrev rmX11_isLetter : Room := { frames := 1, cells := 0, slots := 0, locals := 22 }
def fX11_isLetter (N : Nat) (σ : St) (a0 : Int32) (Q : Int32 → St → Prop) : Prop := fX11_in N σ a0 (97 : Int32) (122 : Int32) (fun (r2 : Int32) (σ1 : St) => Q r2 σ1)
set_option maxHeartbeats 4000000 in
set_option maxRecDepth 100000 in
theorem eX11_isLetter {l : Launch} {E : EC} {lay : Nat → Nat → Nat} {L : List (Nat × Nat)} {A : Nat → Prop} {N : Nat} {σ : St} {a0 : Int32} {Q : Int32 → St → Prop} (hf : fX11_isLetter N σ a0 Q) : Met l yX11_isLetter (.code yX11_isLetter cX11_isLetter 1 (some .boolean) :: big) rmX11_isLetter (va_Pc [.int a0] (Bp E lay L A σ)) (va_Qi (fun r u => Q r u ∧ narrow .boolean (.int r) = .int r) (Bd E lay L A) A) 0 0 A := by
  refine x_met (by decide +kernel) (Nat.le_of_ble_eq_true rfl) ?_
  intro p e s m args below meth c ls C hret hw hl
  have hx := C.1
  have hb := C.2.1
  have hl : lv_has ls 1 [(0, .int a0)] := hl
  unfold fX11_isLetter at hf
  refine lv_iload_n hx hb dX11_isLetter_0 rfl (lv_at hl 0 rfl) ?_
  refine lv_bipush (v := 97) hx hb dX11_isLetter_1 (by decide) ?_
  refine lv_bipush (v := 122) hx hb dX11_isLetter_3 (by decide) ?_
  refine x_runi hw (x_S (n := 3) (rest := []) C hw (eX11_in hf) q984 q985 q53 q986 rfl rfl (by decide +kernel) ⟨Nat.le_of_ble_eq_true rfl, Nat.le_of_ble_eq_true rfl⟩ rfl hl.1 rfl (Nat.le_of_ble_eq_true rfl) dX11_isLetter_5) (fun r2 σ1 H locs hf hw => ?_)
  have hzr2 := hf.2
  replace hf := hf.1
  try dsimp only at hf
  exact x_zret C hret hzr2 hw ⟨hf, hzr2⟩ dX11_isLetter_8
-- X11_isMark
abbrev rmX11_isMark : Room := { frames := 2, cells := 0, slots := 0, locals := 42 }
def fX11_isMark (N : Nat) (σ : St) (a0 : Int32) (Q : Int32 → St → Prop) : Prop := fX11_in N σ a0 (33 : Int32) (126 : Int32) (fun (r2 : Int32) (σ1 : St) => ((r2 = 0 → Q (0 : Int32) σ1) ∧ (¬ r2 = 0 → fX11_isLetter N σ1 a0 (fun (r5 : Int32) (σ4 : St) => ((¬ r5 = 0 → Q (0 : Int32) σ4) ∧ (r5 = 0 → ((a0 = (91 : Int32) → Q (0 : Int32) σ4) ∧ (¬ a0 = (91 : Int32) → ((a0 = (93 : Int32) → Q (0 : Int32) σ4) ∧ (¬ a0 = (93 : Int32) → Q (1 : Int32) σ4))))))))))
set_option maxHeartbeats 4000000 in
set_option maxRecDepth 100000 in
theorem eX11_isMark {l : Launch} {E : EC} {lay : Nat → Nat → Nat} {L : List (Nat × Nat)} {A : Nat → Prop} {N : Nat} {σ : St} {a0 : Int32} {Q : Int32 → St → Prop} (hf : fX11_isMark N σ a0 Q) : Met l yX11_isMark (.code yX11_isMark cX11_isMark 1 (some .boolean) :: big) rmX11_isMark (va_Pc [.int a0] (Bp E lay L A σ)) (va_Qi (fun r u => Q r u ∧ narrow .boolean (.int r) = .int r) (Bd E lay L A) A) 0 0 A := by
  refine x_met (by decide +kernel) (Nat.le_of_ble_eq_true rfl) ?_
  intro p e s m args below meth c ls C hret hw hl
  have hx := C.1
  have hb := C.2.1
  have hl : lv_has ls 1 [(0, .int a0)] := hl
  unfold fX11_isMark at hf
  refine lv_iload_n hx hb dX11_isMark_0 rfl (lv_at hl 0 rfl) ?_
  refine lv_bipush (v := 33) hx hb dX11_isMark_1 (by decide) ?_
  refine lv_bipush (v := 126) hx hb dX11_isMark_3 (by decide) ?_
  refine x_runi hw (x_S (n := 3) (rest := []) C hw (eX11_in hf) q984 q985 q53 q986 rfl rfl (by decide +kernel) ⟨Nat.le_of_ble_eq_true rfl, Nat.le_of_ble_eq_true rfl⟩ rfl hl.1 rfl (Nat.le_of_ble_eq_true rfl) dX11_isMark_5) (fun r2 σ1 H locs hf hw => ?_)
  have hzr2 := hf.2
  replace hf := hf.1
  try dsimp only at hf
  refine lv_if_eq (tgt := 34) hx hb dX11_isMark_8 (by decide) (fun c3 => ?_) (fun c3 => ?_)
  · replace hf := hf.1 c3
    refine lv_iconst (v := 0) hx hb dX11_isMark_34 (by decide) ?_
    exact x_zret C hret (by decide) hw ⟨hf, by decide⟩ dX11_isMark_35
  · replace hf := hf.2 c3
    refine lv_iload_n hx hb dX11_isMark_11 rfl (lv_at hl 0 rfl) ?_
    refine x_runi hw (x_S (n := 1) (rest := []) C hw (eX11_isLetter hf) q1018 q1019 q53 q1020 rfl rfl (by decide +kernel) ⟨Nat.le_of_ble_eq_true rfl, Nat.le_of_ble_eq_true rfl⟩ rfl hl.1 rfl (Nat.le_of_ble_eq_true rfl) dX11_isMark_12) (fun r5 σ4 H locs hf hw => ?_)
    have hzr5 := hf.2
    replace hf := hf.1
    try dsimp only at hf
    refine lv_if_ne (tgt := 34) hx hb dX11_isMark_15 (by decide) (fun c6 => ?_) (fun c6 => ?_)
    · replace hf := hf.1 c6
      refine lv_iconst (v := 0) hx hb dX11_isMark_34 (by decide) ?_
      exact x_zret C hret (by decide) hw ⟨hf, by decide⟩ dX11_isMark_35
    · replace hf := hf.2 c6
      refine lv_iload_n hx hb dX11_isMark_18 rfl (lv_at hl 0 rfl) ?_
      refine lv_bipush (v := 91) hx hb dX11_isMark_19 (by decide) ?_
      refine lv_icmp_eq (tgt := 34) hx hb dX11_isMark_21 (by decide) (fun c7 => ?_) (fun c7 => ?_)
      · replace hf := hf.1 c7
        refine lv_iconst (v := 0) hx hb dX11_isMark_34 (by decide) ?_
        exact x_zret C hret (by decide) hw ⟨hf, by decide⟩ dX11_isMark_35
      · replace hf := hf.2 c7
        refine lv_iload_n hx hb dX11_isMark_24 rfl (lv_at hl 0 rfl) ?_
        refine lv_bipush (v := 93) hx hb dX11_isMark_25 (by decide) ?_
        refine lv_icmp_eq (tgt := 34) hx hb dX11_isMark_27 (by decide) (fun c8 => ?_) (fun c8 => ?_)
        · replace hf := hf.1 c8
          refine lv_iconst (v := 0) hx hb dX11_isMark_34 (by decide) ?_
          exact x_zret C hret (by decide) hw ⟨hf, by decide⟩ dX11_isMark_35
        · replace hf := hf.2 c8
          refine lv_iconst (v := 1) hx hb dX11_isMark_30 (by decide) ?_
          refine lv_goto (tgt := 35) hx hb dX11_isMark_31 (by decide) ?_
          exact x_zret C hret (by decide) hw ⟨hf, by decide⟩ dX11_isMark_35
-- X11_read
abbrev rmX11_read : Room := { frames := 3, cells := 0, slots := 0, locals := 62 }
def fX11_read_b307_41 (N : Nat) (a1 : Int32) (a2 : Int32) (Q : St → Prop) (Kh : St → Int32 → Int32 → Int32 → Prop) (Kx322 : St → Prop) (σ : St) (v3 : Int32) (v5 : Int32) (v9 : Int32) (t0 : Int32) (t1 : Int32) (t2 : Int32) (t3 : Nat) : Prop := (vp_in t2 1500 ∧ ∀ σ39 : St, σ39 = setA σ 77 t3 (t2).toNatClampNeg (t1 + t0) → fX11_isLetter N σ39 v9 (fun (r41 : Int32) (σ40 : St) => Kh σ40 v3 r41 (v5 + (1 : Int32))))
def fX11_read_b291_41 (N : Nat) (a1 : Int32) (a2 : Int32) (Q : St → Prop) (Kh : St → Int32 → Int32 → Int32 → Prop) (Kx322 : St → Prop) (σ : St) (v3 : Int32) (v5 : Int32) (v9 : Int32) (t0 : Int32) (t1 : Int32) (t2 : Nat) : Prop := (vp_in (t1 + t0) 1500 ∧ fX11_isLetter N σ v9 (fun (r37 : Int32) (σ36 : St) => ((r37 = 0 → fX11_read_b307_41 N a1 a2 Q Kh Kx322 σ36 v3 v5 v9 (0 : Int32) (sA σ 77 t2 ((t1 + t0)).toNatClampNeg) (t1 + t0) t2) ∧ (¬ r37 = 0 → fX11_read_b307_41 N a1 a2 Q Kh Kx322 σ36 v3 v5 v9 (1 : Int32) (sA σ 77 t2 ((t1 + t0)).toNatClampNeg) (t1 + t0) t2))))
def fX11_read_b262_41 (N : Nat) (a1 : Int32) (a2 : Int32) (Q : St → Prop) (Kh : St → Int32 → Int32 → Int32 → Prop) (Kx322 : St → Prop) (σ : St) (v3 : Int32) (v5 : Int32) (v9 : Int32) : Prop := (vp_in a1 15 ∧ ((¬ (sA σ 75 0 (a1).toNatClampNeg) = 0 → (vp_in a1 15 ∧ fX11_read_b291_41 N a1 a2 Q Kh Kx322 σ v3 v5 v9 ((sA σ 75 0 (a1).toNatClampNeg) - (1 : Int32)) ((100 : Int32) * a1) 0)) ∧ ((sA σ 75 0 (a1).toNatClampNeg) = 0 → fX11_read_b291_41 N a1 a2 Q Kh Kx322 σ v3 v5 v9 (0 : Int32) ((100 : Int32) * a1) 0)))
def fX11_read_b202_41 (N : Nat) (a1 : Int32) (a2 : Int32) (Q : St → Prop) (Kh : St → Int32 → Int32 → Int32 → Prop) (Kx322 : St → Prop) (σ : St) (v3 : Int32) (v4 : Int32) (v5 : Int32) (v9 : Int32) (t0 : Int32) (t1 : Int32) (t2 : Int32) (t3 : Nat) : Prop := (vp_in t2 15 ∧ ∀ σ28 : St, σ28 = setA σ 74 t3 (t2).toNatClampNeg (t1 + t0) → fX11_isLetter N σ28 v9 (fun (r30 : Int32) (σ29 : St) => ((r30 = 0 → fX11_read_b262_41 N a1 a2 Q Kh Kx322 σ29 v3 v5 v9) ∧ (¬ r30 = 0 → ((¬ v4 = 0 → fX11_read_b262_41 N a1 a2 Q Kh Kx322 σ29 v3 v5 v9) ∧ (v4 = 0 → (vp_in a1 15 ∧ (vp_in (((100 : Int32) * a1) + (sA σ29 75 0 (a1).toNatClampNeg)) 1500 ∧ ∀ σ45 : St, σ45 = setA σ29 76 0 ((((100 : Int32) * a1) + (sA σ29 75 0 (a1).toNatClampNeg))).toNatClampNeg v5 → (vp_in a1 15 ∧ (vp_in (((100 : Int32) * a1) + (sA σ45 75 0 (a1).toNatClampNeg)) 1500 ∧ ∀ σ48 : St, σ48 = setA σ45 77 0 ((((100 : Int32) * a1) + (sA σ45 75 0 (a1).toNatClampNeg))).toNatClampNeg (0 : Int32) → (vp_in a1 15 ∧ (vp_in a1 15 ∧ ∀ σ50 : St, σ50 = setA σ48 75 0 (a1).toNatClampNeg ((sA σ48 75 0 (a1).toNatClampNeg) + (1 : Int32)) → fX11_read_b262_41 N a1 a2 Q Kh Kx322 σ50 v3 v5 v9))))))))))))
def fX11_read_b197_41 (N : Nat) (a1 : Int32) (a2 : Int32) (Q : St → Prop) (Kh : St → Int32 → Int32 → Int32 → Prop) (Kx322 : St → Prop) (σ : St) (v3 : Int32) (v4 : Int32) (v5 : Int32) (v9 : Int32) (t0 : Int32) (t1 : Int32) (t2 : Nat) : Prop := fX11_read_b202_41 N a1 a2 Q Kh Kx322 σ v3 v4 v5 v9 (1 : Int32) t0 t1 t2
def fX11_read_b157_41 (N : Nat) (a1 : Int32) (a2 : Int32) (Q : St → Prop) (Kh : St → Int32 → Int32 → Int32 → Prop) (Kx322 : St → Prop) (σ : St) (v3 : Int32) (v4 : Int32) (v5 : Int32) (t0 : Int32) : Prop := (vp_in (((200 : Int32) * a1) + v5) 3000 ∧ ∀ σ23 : St, σ23 = setA σ 72 0 ((((200 : Int32) * a1) + v5)).toNatClampNeg t0 → (vp_in a1 15 ∧ fX11_isLetter N σ23 t0 (fun (r26 : Int32) (σ25 : St) => ((¬ r26 = 0 → fX11_read_b197_41 N a1 a2 Q Kh Kx322 σ25 v3 v4 v5 t0 (sA σ23 74 0 (a1).toNatClampNeg) a1 0) ∧ (r26 = 0 → fX11_isMark N σ25 t0 (fun (r52 : Int32) (σ51 : St) => ((r52 = 0 → fX11_read_b202_41 N a1 a2 Q Kh Kx322 σ51 v3 v4 v5 t0 (0 : Int32) (sA σ23 74 0 (a1).toNatClampNeg) a1 0) ∧ (¬ r52 = 0 → fX11_read_b197_41 N a1 a2 Q Kh Kx322 σ51 v3 v4 v5 t0 (sA σ23 74 0 (a1).toNatClampNeg) a1 0))))))))
def fX11_read_b144_41 (N : Nat) (a1 : Int32) (a2 : Int32) (Q : St → Prop) (Kh : St → Int32 → Int32 → Int32 → Prop) (Kx322 : St → Prop) (σ : St) (v4 : Int32) (v5 : Int32) (v6 : Int32) (v8 : Int32) (t0 : Int32) : Prop := ((v8 = 0 → fX11_read_b157_41 N a1 a2 Q Kh Kx322 σ t0 v4 v5 (32 : Int32)) ∧ (¬ v8 = 0 → fX11_read_b157_41 N a1 a2 Q Kh Kx322 σ t0 v4 v5 v6))
def fX11_read_b139_41 (N : Nat) (a1 : Int32) (a2 : Int32) (Q : St → Prop) (Kh : St → Int32 → Int32 → Int32 → Prop) (Kx322 : St → Prop) (σ : St) (v4 : Int32) (v5 : Int32) (v6 : Int32) (v8 : Int32) : Prop := fX11_read_b144_41 N a1 a2 Q Kh Kx322 σ v4 v5 v6 v8 (1 : Int32)
def fX11_read_b143_41 (N : Nat) (a1 : Int32) (a2 : Int32) (Q : St → Prop) (Kh : St → Int32 → Int32 → Int32 → Prop) (Kx322 : St → Prop) (σ : St) (v4 : Int32) (v5 : Int32) (v6 : Int32) (v8 : Int32) : Prop := fX11_read_b144_41 N a1 a2 Q Kh Kx322 σ v4 v5 v6 v8 (0 : Int32)
def fX11_read_b121_41 (N : Nat) (a1 : Int32) (a2 : Int32) (Q : St → Prop) (Kh : St → Int32 → Int32 → Int32 → Prop) (Kx322 : St → Prop) (σ : St) (v3 : Int32) (v4 : Int32) (v5 : Int32) (v6 : Int32) (v7 : Int32) (t0 : Int32) : Prop := ((¬ v7 = 0 → fX11_read_b139_41 N a1 a2 Q Kh Kx322 σ v4 v5 v6 t0) ∧ (v7 = 0 → ((v3 = 0 → fX11_read_b143_41 N a1 a2 Q Kh Kx322 σ v4 v5 v6 t0) ∧ (¬ v3 = 0 → ((v6 = (93 : Int32) → fX11_read_b143_41 N a1 a2 Q Kh Kx322 σ v4 v5 v6 t0) ∧ (¬ v6 = (93 : Int32) → fX11_read_b139_41 N a1 a2 Q Kh Kx322 σ v4 v5 v6 t0))))))
def fX11_read_b120_41 (N : Nat) (a1 : Int32) (a2 : Int32) (Q : St → Prop) (Kh : St → Int32 → Int32 → Int32 → Prop) (Kx322 : St → Prop) (σ : St) (v3 : Int32) (v4 : Int32) (v5 : Int32) (v6 : Int32) (v7 : Int32) : Prop := fX11_read_b121_41 N a1 a2 Q Kh Kx322 σ v3 v4 v5 v6 v7 (0 : Int32)
def fX11_read_b105_41 (N : Nat) (a1 : Int32) (a2 : Int32) (Q : St → Prop) (Kh : St → Int32 → Int32 → Int32 → Prop) (Kx322 : St → Prop) (σ : St) (v3 : Int32) (v4 : Int32) (v5 : Int32) (v6 : Int32) (v7 : Int32) (t0 : Int32) (t1 : Int32) (t2 : Int32) (t3 : Nat) : Prop := (vp_in t2 15 ∧ ∀ σ18 : St, σ18 = setA σ 73 t3 (t2).toNatClampNeg (t1 + t0) → ((¬ v3 = 0 → fX11_read_b120_41 N a1 a2 Q Kh Kx322 σ18 v3 v4 v5 v6 v7) ∧ (v3 = 0 → ((¬ v7 = 0 → fX11_read_b120_41 N a1 a2 Q Kh Kx322 σ18 v3 v4 v5 v6 v7) ∧ (v7 = 0 → fX11_read_b121_41 N a1 a2 Q Kh Kx322 σ18 v3 v4 v5 v6 v7 (1 : Int32))))))
def fX11_read_b86_41 (N : Nat) (a1 : Int32) (a2 : Int32) (Q : St → Prop) (Kh : St → Int32 → Int32 → Int32 → Prop) (Kx322 : St → Prop) (σ : St) (v3 : Int32) (v4 : Int32) (v5 : Int32) (v6 : Int32) (t0 : Int32) : Prop := (vp_in a1 15 ∧ ((t0 = 0 → fX11_read_b105_41 N a1 a2 Q Kh Kx322 σ v3 v4 v5 v6 t0 (0 : Int32) (sA σ 73 0 (a1).toNatClampNeg) a1 0) ∧ (¬ t0 = 0 → fX11_read_b105_41 N a1 a2 Q Kh Kx322 σ v3 v4 v5 v6 t0 (1 : Int32) (sA σ 73 0 (a1).toNatClampNeg) a1 0)))
def fX11_read_b85_41 (N : Nat) (a1 : Int32) (a2 : Int32) (Q : St → Prop) (Kh : St → Int32 → Int32 → Int32 → Prop) (Kx322 : St → Prop) (σ : St) (v3 : Int32) (v4 : Int32) (v5 : Int32) (v6 : Int32) : Prop := fX11_read_b86_41 N a1 a2 Q Kh Kx322 σ v3 v4 v5 v6 (0 : Int32)
def fX11_read_l41 (N : Nat) (a1 : Int32) (a2 : Int32) (Q : St → Prop) (Kx322 : St → Prop) : Nat → St → Int32 → Int32 → Int32 → Prop
  | 0, _, _, _, _ => False
  | n + 1, σ, v3, v4, v5 => (vp_in a2 4 ∧ (((sA σ 63 0 (a2).toNatClampNeg) ≤ v5 → Kx322 σ) ∧ (¬ (sA σ 63 0 (a2).toNatClampNeg) ≤ v5 → (vp_in (((200 : Int32) * a2) + v5) 800 ∧ fX11_small N σ (sA σ 64 0 ((((200 : Int32) * a2) + v5)).toNatClampNeg) (fun (r14 : Int32) (σ13 : St) => ((¬ v3 = 0 → fX11_read_b85_41 N a1 a2 Q (fun (σ : St) (w3 : Int32) (w4 : Int32) (w5 : Int32) => fX11_read_l41 N a1 a2 Q Kx322 n σ w3 w4 w5) Kx322 σ13 v3 v4 v5 r14) ∧ (v3 = 0 → ((¬ r14 = (91 : Int32) → fX11_read_b85_41 N a1 a2 Q (fun (σ : St) (w3 : Int32) (w4 : Int32) (w5 : Int32) => fX11_read_l41 N a1 a2 Q Kx322 n σ w3 w4 w5) Kx322 σ13 v3 v4 v5 r14) ∧ (r14 = (91 : Int32) → fX11_read_b86_41 N a1 a2 Q (fun (σ : St) (w3 : Int32) (w4 : Int32) (w5 : Int32) => fX11_read_l41 N a1 a2 Q Kx322 n σ w3 w4 w5) Kx322 σ13 v3 v4 v5 r14 (1 : Int32))))))))))
set_option maxHeartbeats 4000000 in
set_option maxRecDepth 100000 in
theorem eX11_read_b307_41 {p : Program} {l : Launch} {e : Env} {s : State} {m : MethodId} {args : Array Value} {below : List Frame} {meth : Method} {c : Code} {E : EC} {lay : Nat → Nat → Nat} {L : List (Nat × Nat)} {A : Nat → Prop} (C : Cx p s m args c meth yX11_read.cls cX11_read 10 E A) (hret : meth.sig.returnType = none) {N : Nat} {a1 : Int32} {a2 : Int32} {Q : St → Prop} {Kh : St → Int32 → Int32 → Int32 → Prop} {Kx322 : St → Prop} (hm0 : (11, 0) ∈ L) (hKh : ∀ (σ : St) (w3 : Int32) (w4 : Int32) (w5 : Int32) (H : Heap) (locs : List Loc) (ls : Array Slot), Kh σ w3 w4 w5 → Wo E lay L A s σ H locs → lv_has ls 10 [(0, .ref (lay 11 0)), (1, .int a1), (2, .int a2), (3, .int w3), (4, .int w4), (5, .int w5)] → W p l e rmX11_read s m args below meth c H locs 0 0 (MQ below (va_Qv Q (Bd E lay L A) A) args s 0 0 A) (F0 m 41 ls [])) (hK322 : ∀ (σ : St) (H : Heap) (locs : List Loc) (ls : Array Slot), Kx322 σ → Wo E lay L A s σ H locs → lv_has ls 10 [] → W p l e rmX11_read s m args below meth c H locs 0 0 (MQ below (va_Qv Q (Bd E lay L A) A) args s 0 0 A) (F0 m 322 ls [])) (σ : St) (v3 : Int32) (v5 : Int32) (v9 : Int32) (t0 : Int32) (t1 : Int32) (t2 : Int32) (t3 : Nat) (H : Heap) (locs : List Loc) (ls : Array Slot) (hf : fX11_read_b307_41 N a1 a2 Q Kh Kx322 σ v3 v5 v9 t0 t1 t2 t3) (hw : Wo E lay L A s σ H locs) (hl : lv_has ls 10 [(0, .ref (lay 11 0)), (1, .int a1), (2, .int a2), (3, .int v3), (5, .int v5), (9, .int v9)]) (ht3 : (77, t3) ∈ L) : W p l e rmX11_read s m args below meth c H locs 0 0 (MQ below (va_Qv Q (Bd E lay L A) A) args s 0 0 A) (F0 m 307 ls [.int t0, .int t1, .int t2, .ref (lay 77 t3)]) := by
  have hx := C.1
  have hb := C.2.1
  unfold fX11_read_b307_41 at hf
  refine lv_iadd hx hb dX11_read_307 ?_
  refine x_iast C hw ht3 (by decide) rfl hf.1 dX11_read_308 (fun σ39 H locs eσ39 hw => ?_)
  replace hf := hf.2 σ39 eσ39
  refine lv_iload hx hb dX11_read_309 (lv_at hl 5 rfl) ?_
  refine x_runi hw (x_S (n := 1) (rest := []) C hw (eX11_isLetter hf) q1018 q1019 q53 q1020 rfl rfl (by decide +kernel) ⟨Nat.le_of_ble_eq_true rfl, Nat.le_of_ble_eq_true rfl⟩ rfl hl.1 rfl (Nat.le_of_ble_eq_true rfl) dX11_read_311) (fun r41 σ40 H locs hf hw => ?_)
  have hzr41 := hf.2
  replace hf := hf.1
  try dsimp only at hf
  refine lv_istore (lv' := [(4, .int r41), (0, .ref (lay 11 0)), (1, .int a1), (2, .int a2), (3, .int v3), (5, .int v5), (9, .int v9)]) hx hb dX11_read_314 hl (by decide) rfl (fun ls hl => ?_)
  refine lv_iinc (v := (v5 + (1 : Int32))) (lv' := [(5, .int (v5 + (1 : Int32))), (4, .int r41), (0, .ref (lay 11 0)), (1, .int a1), (2, .int a2), (3, .int v3), (9, .int v9)]) hx hb dX11_read_316 hl (k := 5) rfl (by rfl) (by decide) rfl (fun ls hl => ?_)
  refine lv_goto (tgt := 41) hx hb dX11_read_319 (by decide) ?_
  exact hKh σ40 v3 r41 (v5 + (1 : Int32)) _ _ _ hf hw (lv_sub hl [2, 3, 4, 5, 1, 0] rfl)
set_option maxHeartbeats 4000000 in
set_option maxRecDepth 100000 in
theorem eX11_read_b291_41 {p : Program} {l : Launch} {e : Env} {s : State} {m : MethodId} {args : Array Value} {below : List Frame} {meth : Method} {c : Code} {E : EC} {lay : Nat → Nat → Nat} {L : List (Nat × Nat)} {A : Nat → Prop} (C : Cx p s m args c meth yX11_read.cls cX11_read 10 E A) (hret : meth.sig.returnType = none) {N : Nat} {a1 : Int32} {a2 : Int32} {Q : St → Prop} {Kh : St → Int32 → Int32 → Int32 → Prop} {Kx322 : St → Prop} (hm0 : (11, 0) ∈ L) (hKh : ∀ (σ : St) (w3 : Int32) (w4 : Int32) (w5 : Int32) (H : Heap) (locs : List Loc) (ls : Array Slot), Kh σ w3 w4 w5 → Wo E lay L A s σ H locs → lv_has ls 10 [(0, .ref (lay 11 0)), (1, .int a1), (2, .int a2), (3, .int w3), (4, .int w4), (5, .int w5)] → W p l e rmX11_read s m args below meth c H locs 0 0 (MQ below (va_Qv Q (Bd E lay L A) A) args s 0 0 A) (F0 m 41 ls [])) (hK322 : ∀ (σ : St) (H : Heap) (locs : List Loc) (ls : Array Slot), Kx322 σ → Wo E lay L A s σ H locs → lv_has ls 10 [] → W p l e rmX11_read s m args below meth c H locs 0 0 (MQ below (va_Qv Q (Bd E lay L A) A) args s 0 0 A) (F0 m 322 ls [])) (σ : St) (v3 : Int32) (v5 : Int32) (v9 : Int32) (t0 : Int32) (t1 : Int32) (t2 : Nat) (H : Heap) (locs : List Loc) (ls : Array Slot) (hf : fX11_read_b291_41 N a1 a2 Q Kh Kx322 σ v3 v5 v9 t0 t1 t2) (hw : Wo E lay L A s σ H locs) (hl : lv_has ls 10 [(0, .ref (lay 11 0)), (1, .int a1), (2, .int a2), (3, .int v3), (5, .int v5), (9, .int v9)]) (ht2 : (77, t2) ∈ L) : W p l e rmX11_read s m args below meth c H locs 0 0 (MQ below (va_Qv Q (Bd E lay L A) A) args s 0 0 A) (F0 m 291 ls [.int t0, .int t1, .ref (lay 77 t2)]) := by
  have hx := C.1
  have hb := C.2.1
  unfold fX11_read_b291_41 at hf
  refine lv_iadd hx hb dX11_read_291 ?_
  refine lv_dup2_11 hx hb dX11_read_292 rfl rfl ?_
  refine x_iald C hw ht2 (by decide) rfl hf.1 dX11_read_293 ?_
  replace hf := hf.2
  refine lv_iload hx hb dX11_read_294 (lv_at hl 5 rfl) ?_
  refine x_runi hw (x_S (n := 1) (rest := [.int (sA σ 77 t2 ((t1 + t0)).toNatClampNeg), .int (t1 + t0), .ref (lay 77 t2)]) C hw (eX11_isLetter hf) q1018 q1019 q53 q1020 rfl rfl (by decide +kernel) ⟨Nat.le_of_ble_eq_true rfl, Nat.le_of_ble_eq_true rfl⟩ rfl hl.1 rfl (Nat.le_of_ble_eq_true rfl) dX11_read_296) (fun r37 σ36 H locs hf hw => ?_)
  have hzr37 := hf.2
  replace hf := hf.1
  try dsimp only at hf
  refine lv_if_eq (tgt := 306) hx hb dX11_read_299 (by decide) (fun c38 => ?_) (fun c38 => ?_)
  · replace hf := hf.1 c38
    refine lv_iconst (v := 0) hx hb dX11_read_306 (by decide) ?_
    exact eX11_read_b307_41 C hret hm0 hKh hK322 σ36 v3 v5 v9 (0 : Int32) (sA σ 77 t2 ((t1 + t0)).toNatClampNeg) (t1 + t0) t2 _ _ _ hf hw (lv_sub hl [0, 1, 2, 3, 4, 5] rfl) ht2
  · replace hf := hf.2 c38
    refine lv_iconst (v := 1) hx hb dX11_read_302 (by decide) ?_
    refine lv_goto (tgt := 307) hx hb dX11_read_303 (by decide) ?_
    exact eX11_read_b307_41 C hret hm0 hKh hK322 σ36 v3 v5 v9 (1 : Int32) (sA σ 77 t2 ((t1 + t0)).toNatClampNeg) (t1 + t0) t2 _ _ _ hf hw (lv_sub hl [0, 1, 2, 3, 4, 5] rfl) ht2
set_option maxHeartbeats 4000000 in
set_option maxRecDepth 100000 in
theorem eX11_read_b262_41 {p : Program} {l : Launch} {e : Env} {s : State} {m : MethodId} {args : Array Value} {below : List Frame} {meth : Method} {c : Code} {E : EC} {lay : Nat → Nat → Nat} {L : List (Nat × Nat)} {A : Nat → Prop} (C : Cx p s m args c meth yX11_read.cls cX11_read 10 E A) (hret : meth.sig.returnType = none) {N : Nat} {a1 : Int32} {a2 : Int32} {Q : St → Prop} {Kh : St → Int32 → Int32 → Int32 → Prop} {Kx322 : St → Prop} (hm0 : (11, 0) ∈ L) (hKh : ∀ (σ : St) (w3 : Int32) (w4 : Int32) (w5 : Int32) (H : Heap) (locs : List Loc) (ls : Array Slot), Kh σ w3 w4 w5 → Wo E lay L A s σ H locs → lv_has ls 10 [(0, .ref (lay 11 0)), (1, .int a1), (2, .int a2), (3, .int w3), (4, .int w4), (5, .int w5)] → W p l e rmX11_read s m args below meth c H locs 0 0 (MQ below (va_Qv Q (Bd E lay L A) A) args s 0 0 A) (F0 m 41 ls [])) (hK322 : ∀ (σ : St) (H : Heap) (locs : List Loc) (ls : Array Slot), Kx322 σ → Wo E lay L A s σ H locs → lv_has ls 10 [] → W p l e rmX11_read s m args below meth c H locs 0 0 (MQ below (va_Qv Q (Bd E lay L A) A) args s 0 0 A) (F0 m 322 ls [])) (σ : St) (v3 : Int32) (v5 : Int32) (v9 : Int32) (H : Heap) (locs : List Loc) (ls : Array Slot) (hf : fX11_read_b262_41 N a1 a2 Q Kh Kx322 σ v3 v5 v9) (hw : Wo E lay L A s σ H locs) (hl : lv_has ls 10 [(0, .ref (lay 11 0)), (1, .int a1), (2, .int a2), (3, .int v3), (5, .int v5), (9, .int v9)]) : W p l e rmX11_read s m args below meth c H locs 0 0 (MQ below (va_Qv Q (Bd E lay L A) A) args s 0 0 A) (F0 m 262 ls []) := by
  have hx := C.1
  have hb := C.2.1
  unfold fX11_read_b262_41 at hf
  refine lv_aload_n hx hb dX11_read_262 rfl (lv_at hl 0 rfl) ?_
  have hm_32 : (77, 0) ∈ L := hw.2.2.2.1 11 0 hm0 17 (by decide) (by decide) rfl
  refine x_get (v := .ref (lay 77 0)) (j := 17) C hw hm0 rfl (by decide) (by decide) rfl q897 dX11_read_263 ?_
  refine lv_bipush (v := 100) hx hb dX11_read_266 (by decide) ?_
  refine lv_iload_n hx hb dX11_read_268 rfl (lv_at hl 1 rfl) ?_
  refine lv_imul hx hb dX11_read_269 ?_
  refine lv_aload_n hx hb dX11_read_270 rfl (lv_at hl 0 rfl) ?_
  have hm_33 : (75, 0) ∈ L := hw.2.2.2.1 11 0 hm0 15 (by decide) (by decide) rfl
  refine x_get (v := .ref (lay 75 0)) (j := 15) C hw hm0 rfl (by decide) (by decide) rfl q895 dX11_read_271 ?_
  refine lv_iload_n hx hb dX11_read_274 rfl (lv_at hl 1 rfl) ?_
  refine x_iald C hw hm_33 (by decide) rfl hf.1 dX11_read_275 ?_
  replace hf := hf.2
  refine lv_if_ne (tgt := 283) hx hb dX11_read_276 (by decide) (fun c34 => ?_) (fun c34 => ?_)
  · replace hf := hf.1 c34
    refine lv_aload_n hx hb dX11_read_283 rfl (lv_at hl 0 rfl) ?_
    have hm_35 : (75, 0) ∈ L := hw.2.2.2.1 11 0 hm0 15 (by decide) (by decide) rfl
    refine x_get (v := .ref (lay 75 0)) (j := 15) C hw hm0 rfl (by decide) (by decide) rfl q895 dX11_read_284 ?_
    refine lv_iload_n hx hb dX11_read_287 rfl (lv_at hl 1 rfl) ?_
    refine x_iald C hw hm_35 (by decide) rfl hf.1 dX11_read_288 ?_
    replace hf := hf.2
    refine lv_iconst (v := 1) hx hb dX11_read_289 (by decide) ?_
    refine lv_isub hx hb dX11_read_290 ?_
    exact eX11_read_b291_41 C hret hm0 hKh hK322 σ v3 v5 v9 ((sA σ 75 0 (a1).toNatClampNeg) - (1 : Int32)) ((100 : Int32) * a1) 0 _ _ _ hf hw (lv_sub hl [0, 1, 2, 3, 4, 5] rfl) hm_32
  · replace hf := hf.2 c34
    refine lv_iconst (v := 0) hx hb dX11_read_279 (by decide) ?_
    refine lv_goto (tgt := 291) hx hb dX11_read_280 (by decide) ?_
    exact eX11_read_b291_41 C hret hm0 hKh hK322 σ v3 v5 v9 (0 : Int32) ((100 : Int32) * a1) 0 _ _ _ hf hw (lv_sub hl [0, 1, 2, 3, 4, 5] rfl) hm_32
set_option maxHeartbeats 4000000 in
set_option maxRecDepth 100000 in
theorem eX11_read_b202_41 {p : Program} {l : Launch} {e : Env} {s : State} {m : MethodId} {args : Array Value} {below : List Frame} {meth : Method} {c : Code} {E : EC} {lay : Nat → Nat → Nat} {L : List (Nat × Nat)} {A : Nat → Prop} (C : Cx p s m args c meth yX11_read.cls cX11_read 10 E A) (hret : meth.sig.returnType = none) {N : Nat} {a1 : Int32} {a2 : Int32} {Q : St → Prop} {Kh : St → Int32 → Int32 → Int32 → Prop} {Kx322 : St → Prop} (hm0 : (11, 0) ∈ L) (hKh : ∀ (σ : St) (w3 : Int32) (w4 : Int32) (w5 : Int32) (H : Heap) (locs : List Loc) (ls : Array Slot), Kh σ w3 w4 w5 → Wo E lay L A s σ H locs → lv_has ls 10 [(0, .ref (lay 11 0)), (1, .int a1), (2, .int a2), (3, .int w3), (4, .int w4), (5, .int w5)] → W p l e rmX11_read s m args below meth c H locs 0 0 (MQ below (va_Qv Q (Bd E lay L A) A) args s 0 0 A) (F0 m 41 ls [])) (hK322 : ∀ (σ : St) (H : Heap) (locs : List Loc) (ls : Array Slot), Kx322 σ → Wo E lay L A s σ H locs → lv_has ls 10 [] → W p l e rmX11_read s m args below meth c H locs 0 0 (MQ below (va_Qv Q (Bd E lay L A) A) args s 0 0 A) (F0 m 322 ls [])) (σ : St) (v3 : Int32) (v4 : Int32) (v5 : Int32) (v9 : Int32) (t0 : Int32) (t1 : Int32) (t2 : Int32) (t3 : Nat) (H : Heap) (locs : List Loc) (ls : Array Slot) (hf : fX11_read_b202_41 N a1 a2 Q Kh Kx322 σ v3 v4 v5 v9 t0 t1 t2 t3) (hw : Wo E lay L A s σ H locs) (hl : lv_has ls 10 [(0, .ref (lay 11 0)), (1, .int a1), (2, .int a2), (3, .int v3), (4, .int v4), (5, .int v5), (9, .int v9)]) (ht3 : (74, t3) ∈ L) : W p l e rmX11_read s m args below meth c H locs 0 0 (MQ below (va_Qv Q (Bd E lay L A) A) args s 0 0 A) (F0 m 202 ls [.int t0, .int t1, .int t2, .ref (lay 74 t3)]) := by
  have hx := C.1
  have hb := C.2.1
  unfold fX11_read_b202_41 at hf
  refine lv_iadd hx hb dX11_read_202 ?_
  refine x_iast C hw ht3 (by decide) rfl hf.1 dX11_read_203 (fun σ28 H locs eσ28 hw => ?_)
  replace hf := hf.2 σ28 eσ28
  refine lv_iload hx hb dX11_read_204 (lv_at hl 6 rfl) ?_
  refine x_runi hw (x_S (n := 1) (rest := []) C hw (eX11_isLetter hf) q1018 q1019 q53 q1020 rfl rfl (by decide +kernel) ⟨Nat.le_of_ble_eq_true rfl, Nat.le_of_ble_eq_true rfl⟩ rfl hl.1 rfl (Nat.le_of_ble_eq_true rfl) dX11_read_206) (fun r30 σ29 H locs hf hw => ?_)
  have hzr30 := hf.2
  replace hf := hf.1
  try dsimp only at hf
  refine lv_if_eq (tgt := 262) hx hb dX11_read_209 (by decide) (fun c31 => ?_) (fun c31 => ?_)
  · replace hf := hf.1 c31
    exact eX11_read_b262_41 C hret hm0 hKh hK322 σ29 v3 v5 v9 _ _ _ hf hw (lv_sub hl [0, 1, 2, 3, 5, 6] rfl)
  · replace hf := hf.2 c31
    refine lv_iload hx hb dX11_read_212 (lv_at hl 4 rfl) ?_
    refine lv_if_ne (tgt := 262) hx hb dX11_read_214 (by decide) (fun c42 => ?_) (fun c42 => ?_)
    · replace hf := hf.1 c42
      exact eX11_read_b262_41 C hret hm0 hKh hK322 σ29 v3 v5 v9 _ _ _ hf hw (lv_sub hl [0, 1, 2, 3, 5, 6] rfl)
    · replace hf := hf.2 c42
      refine lv_aload_n hx hb dX11_read_217 rfl (lv_at hl 0 rfl) ?_
      have hm_43 : (76, 0) ∈ L := hw.2.2.2.1 11 0 hm0 16 (by decide) (by decide) rfl
      refine x_get (v := .ref (lay 76 0)) (j := 16) C hw hm0 rfl (by decide) (by decide) rfl q896 dX11_read_218 ?_
      refine lv_bipush (v := 100) hx hb dX11_read_221 (by decide) ?_
      refine lv_iload_n hx hb dX11_read_223 rfl (lv_at hl 1 rfl) ?_
      refine lv_imul hx hb dX11_read_224 ?_
      refine lv_aload_n hx hb dX11_read_225 rfl (lv_at hl 0 rfl) ?_
      have hm_44 : (75, 0) ∈ L := hw.2.2.2.1 11 0 hm0 15 (by decide) (by decide) rfl
      refine x_get (v := .ref (lay 75 0)) (j := 15) C hw hm0 rfl (by decide) (by decide) rfl q895 dX11_read_226 ?_
      refine lv_iload_n hx hb dX11_read_229 rfl (lv_at hl 1 rfl) ?_
      refine x_iald C hw hm_44 (by decide) rfl hf.1 dX11_read_230 ?_
      replace hf := hf.2
      refine lv_iadd hx hb dX11_read_231 ?_
      refine lv_iload hx hb dX11_read_232 (lv_at hl 5 rfl) ?_
      refine x_iast C hw hm_43 (by decide) rfl hf.1 dX11_read_234 (fun σ45 H locs eσ45 hw => ?_)
      replace hf := hf.2 σ45 eσ45
      refine lv_aload_n hx hb dX11_read_235 rfl (lv_at hl 0 rfl) ?_
      have hm_46 : (77, 0) ∈ L := hw.2.2.2.1 11 0 hm0 17 (by decide) (by decide) rfl
      refine x_get (v := .ref (lay 77 0)) (j := 17) C hw hm0 rfl (by decide) (by decide) rfl q897 dX11_read_236 ?_
      refine lv_bipush (v := 100) hx hb dX11_read_239 (by decide) ?_
      refine lv_iload_n hx hb dX11_read_241 rfl (lv_at hl 1 rfl) ?_
      refine lv_imul hx hb dX11_read_242 ?_
      refine lv_aload_n hx hb dX11_read_243 rfl (lv_at hl 0 rfl) ?_
      have hm_47 : (75, 0) ∈ L := hw.2.2.2.1 11 0 hm0 15 (by decide) (by decide) rfl
      refine x_get (v := .ref (lay 75 0)) (j := 15) C hw hm0 rfl (by decide) (by decide) rfl q895 dX11_read_244 ?_
      refine lv_iload_n hx hb dX11_read_247 rfl (lv_at hl 1 rfl) ?_
      refine x_iald C hw hm_47 (by decide) rfl hf.1 dX11_read_248 ?_
      replace hf := hf.2
      refine lv_iadd hx hb dX11_read_249 ?_
      refine lv_iconst (v := 0) hx hb dX11_read_250 (by decide) ?_
      refine x_iast C hw hm_46 (by decide) rfl hf.1 dX11_read_251 (fun σ48 H locs eσ48 hw => ?_)
      replace hf := hf.2 σ48 eσ48
      refine lv_aload_n hx hb dX11_read_252 rfl (lv_at hl 0 rfl) ?_
      have hm_49 : (75, 0) ∈ L := hw.2.2.2.1 11 0 hm0 15 (by decide) (by decide) rfl
      refine x_get (v := .ref (lay 75 0)) (j := 15) C hw hm0 rfl (by decide) (by decide) rfl q895 dX11_read_253 ?_
      refine lv_iload_n hx hb dX11_read_256 rfl (lv_at hl 1 rfl) ?_
      refine lv_dup2_11 hx hb dX11_read_257 rfl rfl ?_
      refine x_iald C hw hm_49 (by decide) rfl hf.1 dX11_read_258 ?_
      replace hf := hf.2
      refine lv_iconst (v := 1) hx hb dX11_read_259 (by decide) ?_
      refine lv_iadd hx hb dX11_read_260 ?_
      refine x_iast C hw hm_49 (by decide) rfl hf.1 dX11_read_261 (fun σ50 H locs eσ50 hw => ?_)
      replace hf := hf.2 σ50 eσ50
      exact eX11_read_b262_41 C hret hm0 hKh hK322 σ50 v3 v5 v9 _ _ _ hf hw (lv_sub hl [0, 1, 2, 3, 5, 6] rfl)
set_option maxHeartbeats 4000000 in
set_option maxRecDepth 100000 in
theorem eX11_read_b197_41 {p : Program} {l : Launch} {e : Env} {s : State} {m : MethodId} {args : Array Value} {below : List Frame} {meth : Method} {c : Code} {E : EC} {lay : Nat → Nat → Nat} {L : List (Nat × Nat)} {A : Nat → Prop} (C : Cx p s m args c meth yX11_read.cls cX11_read 10 E A) (hret : meth.sig.returnType = none) {N : Nat} {a1 : Int32} {a2 : Int32} {Q : St → Prop} {Kh : St → Int32 → Int32 → Int32 → Prop} {Kx322 : St → Prop} (hm0 : (11, 0) ∈ L) (hKh : ∀ (σ : St) (w3 : Int32) (w4 : Int32) (w5 : Int32) (H : Heap) (locs : List Loc) (ls : Array Slot), Kh σ w3 w4 w5 → Wo E lay L A s σ H locs → lv_has ls 10 [(0, .ref (lay 11 0)), (1, .int a1), (2, .int a2), (3, .int w3), (4, .int w4), (5, .int w5)] → W p l e rmX11_read s m args below meth c H locs 0 0 (MQ below (va_Qv Q (Bd E lay L A) A) args s 0 0 A) (F0 m 41 ls [])) (hK322 : ∀ (σ : St) (H : Heap) (locs : List Loc) (ls : Array Slot), Kx322 σ → Wo E lay L A s σ H locs → lv_has ls 10 [] → W p l e rmX11_read s m args below meth c H locs 0 0 (MQ below (va_Qv Q (Bd E lay L A) A) args s 0 0 A) (F0 m 322 ls [])) (σ : St) (v3 : Int32) (v4 : Int32) (v5 : Int32) (v9 : Int32) (t0 : Int32) (t1 : Int32) (t2 : Nat) (H : Heap) (locs : List Loc) (ls : Array Slot) (hf : fX11_read_b197_41 N a1 a2 Q Kh Kx322 σ v3 v4 v5 v9 t0 t1 t2) (hw : Wo E lay L A s σ H locs) (hl : lv_has ls 10 [(0, .ref (lay 11 0)), (1, .int a1), (2, .int a2), (3, .int v3), (4, .int v4), (5, .int v5), (9, .int v9)]) (ht2 : (74, t2) ∈ L) : W p l e rmX11_read s m args below meth c H locs 0 0 (MQ below (va_Qv Q (Bd E lay L A) A) args s 0 0 A) (F0 m 197 ls [.int t0, .int t1, .ref (lay 74 t2)]) := by
  have hx := C.1
  have hb := C.2.1
  unfold fX11_read_b197_41 at hf
  refine lv_iconst (v := 1) hx hb dX11_read_197 (by decide) ?_
  refine lv_goto (tgt := 202) hx hb dX11_read_198 (by decide) ?_
  exact eX11_read_b202_41 C hret hm0 hKh hK322 σ v3 v4 v5 v9 (1 : Int32) t0 t1 t2 _ _ _ hf hw (lv_sub hl [0, 1, 2, 3, 4, 5, 6] rfl) ht2
set_option maxHeartbeats 4000000 in
set_option maxRecDepth 100000 in
theorem eX11_read_b157_41 {p : Program} {l : Launch} {e : Env} {s : State} {m : MethodId} {args : Array Value} {below : List Frame} {meth : Method} {c : Code} {E : EC} {lay : Nat → Nat → Nat} {L : List (Nat × Nat)} {A : Nat → Prop} (C : Cx p s m args c meth yX11_read.cls cX11_read 10 E A) (hret : meth.sig.returnType = none) {N : Nat} {a1 : Int32} {a2 : Int32} {Q : St → Prop} {Kh : St → Int32 → Int32 → Int32 → Prop} {Kx322 : St → Prop} (hm0 : (11, 0) ∈ L) (hKh : ∀ (σ : St) (w3 : Int32) (w4 : Int32) (w5 : Int32) (H : Heap) (locs : List Loc) (ls : Array Slot), Kh σ w3 w4 w5 → Wo E lay L A s σ H locs → lv_has ls 10 [(0, .ref (lay 11 0)), (1, .int a1), (2, .int a2), (3, .int w3), (4, .int w4), (5, .int w5)] → W p l e rmX11_read s m args below meth c H locs 0 0 (MQ below (va_Qv Q (Bd E lay L A) A) args s 0 0 A) (F0 m 41 ls [])) (hK322 : ∀ (σ : St) (H : Heap) (locs : List Loc) (ls : Array Slot), Kx322 σ → Wo E lay L A s σ H locs → lv_has ls 10 [] → W p l e rmX11_read s m args below meth c H locs 0 0 (MQ below (va_Qv Q (Bd E lay L A) A) args s 0 0 A) (F0 m 322 ls [])) (σ : St) (v3 : Int32) (v4 : Int32) (v5 : Int32) (t0 : Int32) (H : Heap) (locs : List Loc) (ls : Array Slot) (hf : fX11_read_b157_41 N a1 a2 Q Kh Kx322 σ v3 v4 v5 t0) (hw : Wo E lay L A s σ H locs) (hl : lv_has ls 10 [(0, .ref (lay 11 0)), (1, .int a1), (2, .int a2), (3, .int v3), (4, .int v4), (5, .int v5)]) : W p l e rmX11_read s m args below meth c H locs 0 0 (MQ below (va_Qv Q (Bd E lay L A) A) args s 0 0 A) (F0 m 157 ls [.int t0]) := by
  have hx := C.1
  have hb := C.2.1
  unfold fX11_read_b157_41 at hf
  refine lv_istore (lv' := [(9, .int t0), (0, .ref (lay 11 0)), (1, .int a1), (2, .int a2), (3, .int v3), (4, .int v4), (5, .int v5)]) hx hb dX11_read_157 hl (by decide) rfl (fun ls hl => ?_)
  refine lv_aload_n hx hb dX11_read_159 rfl (lv_at hl 1 rfl) ?_
  have hm_22 : (72, 0) ∈ L := hw.2.2.2.1 11 0 hm0 12 (by decide) (by decide) rfl
  refine x_get (v := .ref (lay 72 0)) (j := 12) C hw hm0 rfl (by decide) (by decide) rfl q892 dX11_read_160 ?_
  refine lv_sipush (v := 200) hx hb dX11_read_163 (by decide) ?_
  refine lv_iload_n hx hb dX11_read_166 rfl (lv_at hl 2 rfl) ?_
  refine lv_imul hx hb dX11_read_167 ?_
  refine lv_iload hx hb dX11_read_168 (lv_at hl 6 rfl) ?_
  refine lv_iadd hx hb dX11_read_170 ?_
  refine lv_iload hx hb dX11_read_171 (lv_at hl 0 rfl) ?_
  refine x_iast C hw hm_22 (by decide) rfl hf.1 dX11_read_173 (fun σ23 H locs eσ23 hw => ?_)
  replace hf := hf.2 σ23 eσ23
  refine lv_aload_n hx hb dX11_read_174 rfl (lv_at hl 1 rfl) ?_
  have hm_24 : (74, 0) ∈ L := hw.2.2.2.1 11 0 hm0 14 (by decide) (by decide) rfl
  refine x_get (v := .ref (lay 74 0)) (j := 14) C hw hm0 rfl (by decide) (by decide) rfl q894 dX11_read_175 ?_
  refine lv_iload_n hx hb dX11_read_178 rfl (lv_at hl 2 rfl) ?_
  refine lv_dup2_11 hx hb dX11_read_179 rfl rfl ?_
  refine x_iald C hw hm_24 (by decide) rfl hf.1 dX11_read_180 ?_
  replace hf := hf.2
  refine lv_iload hx hb dX11_read_181 (lv_at hl 0 rfl) ?_
  refine x_runi hw (x_S (n := 1) (rest := [.int (sA σ23 74 0 (a1).toNatClampNeg), .int a1, .ref (lay 74 0)]) C hw (eX11_isLetter hf) q1018 q1019 q53 q1020 rfl rfl (by decide +kernel) ⟨Nat.le_of_ble_eq_true rfl, Nat.le_of_ble_eq_true rfl⟩ rfl hl.1 rfl (Nat.le_of_ble_eq_true rfl) dX11_read_183) (fun r26 σ25 H locs hf hw => ?_)
  have hzr26 := hf.2
  replace hf := hf.1
  try dsimp only at hf
  refine lv_if_ne (tgt := 197) hx hb dX11_read_186 (by decide) (fun c27 => ?_) (fun c27 => ?_)
  · replace hf := hf.1 c27
    exact eX11_read_b197_41 C hret hm0 hKh hK322 σ25 v3 v4 v5 t0 (sA σ23 74 0 (a1).toNatClampNeg) a1 0 _ _ _ hf hw (lv_sub hl [1, 2, 3, 4, 5, 6, 0] rfl) hm_24
  · replace hf := hf.2 c27
    refine lv_iload hx hb dX11_read_189 (lv_at hl 0 rfl) ?_
    refine x_runi hw (x_S (n := 1) (rest := [.int (sA σ23 74 0 (a1).toNatClampNeg), .int a1, .ref (lay 74 0)]) C hw (eX11_isMark hf) q1021 q1022 q53 q1023 rfl rfl (by decide +kernel) ⟨Nat.le_of_ble_eq_true rfl, Nat.le_of_ble_eq_true rfl⟩ rfl hl.1 rfl (Nat.le_of_ble_eq_true rfl) dX11_read_191) (fun r52 σ51 H locs hf hw => ?_)
    have hzr52 := hf.2
    replace hf := hf.1
    try dsimp only at hf
    refine lv_if_eq (tgt := 201) hx hb dX11_read_194 (by decide) (fun c53 => ?_) (fun c53 => ?_)
    · replace hf := hf.1 c53
      refine lv_iconst (v := 0) hx hb dX11_read_201 (by decide) ?_
      exact eX11_read_b202_41 C hret hm0 hKh hK322 σ51 v3 v4 v5 t0 (0 : Int32) (sA σ23 74 0 (a1).toNatClampNeg) a1 0 _ _ _ hf hw (lv_sub hl [1, 2, 3, 4, 5, 6, 0] rfl) hm_24
    · replace hf := hf.2 c53
      exact eX11_read_b197_41 C hret hm0 hKh hK322 σ51 v3 v4 v5 t0 (sA σ23 74 0 (a1).toNatClampNeg) a1 0 _ _ _ hf hw (lv_sub hl [1, 2, 3, 4, 5, 6, 0] rfl) hm_24
set_option maxHeartbeats 4000000 in
set_option maxRecDepth 100000 in
theorem eX11_read_b144_41 {p : Program} {l : Launch} {e : Env} {s : State} {m : MethodId} {args : Array Value} {below : List Frame} {meth : Method} {c : Code} {E : EC} {lay : Nat → Nat → Nat} {L : List (Nat × Nat)} {A : Nat → Prop} (C : Cx p s m args c meth yX11_read.cls cX11_read 10 E A) (hret : meth.sig.returnType = none) {N : Nat} {a1 : Int32} {a2 : Int32} {Q : St → Prop} {Kh : St → Int32 → Int32 → Int32 → Prop} {Kx322 : St → Prop} (hm0 : (11, 0) ∈ L) (hKh : ∀ (σ : St) (w3 : Int32) (w4 : Int32) (w5 : Int32) (H : Heap) (locs : List Loc) (ls : Array Slot), Kh σ w3 w4 w5 → Wo E lay L A s σ H locs → lv_has ls 10 [(0, .ref (lay 11 0)), (1, .int a1), (2, .int a2), (3, .int w3), (4, .int w4), (5, .int w5)] → W p l e rmX11_read s m args below meth c H locs 0 0 (MQ below (va_Qv Q (Bd E lay L A) A) args s 0 0 A) (F0 m 41 ls [])) (hK322 : ∀ (σ : St) (H : Heap) (locs : List Loc) (ls : Array Slot), Kx322 σ → Wo E lay L A s σ H locs → lv_has ls 10 [] → W p l e rmX11_read s m args below meth c H locs 0 0 (MQ below (va_Qv Q (Bd E lay L A) A) args s 0 0 A) (F0 m 322 ls [])) (σ : St) (v4 : Int32) (v5 : Int32) (v6 : Int32) (v8 : Int32) (t0 : Int32) (H : Heap) (locs : List Loc) (ls : Array Slot) (hf : fX11_read_b144_41 N a1 a2 Q Kh Kx322 σ v4 v5 v6 v8 t0) (hw : Wo E lay L A s σ H locs) (hl : lv_has ls 10 [(0, .ref (lay 11 0)), (1, .int a1), (2, .int a2), (4, .int v4), (5, .int v5), (6, .int v6), (8, .int v8)]) : W p l e rmX11_read s m args below meth c H locs 0 0 (MQ below (va_Qv Q (Bd E lay L A) A) args s 0 0 A) (F0 m 144 ls [.int t0]) := by
  have hx := C.1
  have hb := C.2.1
  unfold fX11_read_b144_41 at hf
  refine lv_istore_n (lv' := [(3, .int t0), (0, .ref (lay 11 0)), (1, .int a1), (2, .int a2), (4, .int v4), (5, .int v5), (6, .int v6), (8, .int v8)]) hx hb dX11_read_144 rfl hl (by decide) rfl (fun ls hl => ?_)
  refine lv_iload hx hb dX11_read_145 (lv_at hl 7 rfl) ?_
  refine lv_if_eq (tgt := 155) hx hb dX11_read_147 (by decide) (fun c21 => ?_) (fun c21 => ?_)
  · replace hf := hf.1 c21
    refine lv_bipush (v := 32) hx hb dX11_read_155 (by decide) ?_
    exact eX11_read_b157_41 C hret hm0 hKh hK322 σ t0 v4 v5 (32 : Int32) _ _ _ hf hw (lv_sub hl [1, 2, 3, 0, 4, 5] rfl)
  · replace hf := hf.2 c21
    refine lv_iload hx hb dX11_read_150 (lv_at hl 6 rfl) ?_
    refine lv_goto (tgt := 157) hx hb dX11_read_152 (by decide) ?_
    exact eX11_read_b157_41 C hret hm0 hKh hK322 σ t0 v4 v5 v6 _ _ _ hf hw (lv_sub hl [1, 2, 3, 0, 4, 5] rfl)
set_option maxHeartbeats 4000000 in
set_option maxRecDepth 100000 in
theorem eX11_read_b139_41 {p : Program} {l : Launch} {e : Env} {s : State} {m : MethodId} {args : Array Value} {below : List Frame} {meth : Method} {c : Code} {E : EC} {lay : Nat → Nat → Nat} {L : List (Nat × Nat)} {A : Nat → Prop} (C : Cx p s m args c meth yX11_read.cls cX11_read 10 E A) (hret : meth.sig.returnType = none) {N : Nat} {a1 : Int32} {a2 : Int32} {Q : St → Prop} {Kh : St → Int32 → Int32 → Int32 → Prop} {Kx322 : St → Prop} (hm0 : (11, 0) ∈ L) (hKh : ∀ (σ : St) (w3 : Int32) (w4 : Int32) (w5 : Int32) (H : Heap) (locs : List Loc) (ls : Array Slot), Kh σ w3 w4 w5 → Wo E lay L A s σ H locs → lv_has ls 10 [(0, .ref (lay 11 0)), (1, .int a1), (2, .int a2), (3, .int w3), (4, .int w4), (5, .int w5)] → W p l e rmX11_read s m args below meth c H locs 0 0 (MQ below (va_Qv Q (Bd E lay L A) A) args s 0 0 A) (F0 m 41 ls [])) (hK322 : ∀ (σ : St) (H : Heap) (locs : List Loc) (ls : Array Slot), Kx322 σ → Wo E lay L A s σ H locs → lv_has ls 10 [] → W p l e rmX11_read s m args below meth c H locs 0 0 (MQ below (va_Qv Q (Bd E lay L A) A) args s 0 0 A) (F0 m 322 ls [])) (σ : St) (v4 : Int32) (v5 : Int32) (v6 : Int32) (v8 : Int32) (H : Heap) (locs : List Loc) (ls : Array Slot) (hf : fX11_read_b139_41 N a1 a2 Q Kh Kx322 σ v4 v5 v6 v8) (hw : Wo E lay L A s σ H locs) (hl : lv_has ls 10 [(0, .ref (lay 11 0)), (1, .int a1), (2, .int a2), (4, .int v4), (5, .int v5), (6, .int v6), (8, .int v8)]) : W p l e rmX11_read s m args below meth c H locs 0 0 (MQ below (va_Qv Q (Bd E lay L A) A) args s 0 0 A) (F0 m 139 ls []) := by
  have hx := C.1
  have hb := C.2.1
  unfold fX11_read_b139_41 at hf
  refine lv_iconst (v := 1) hx hb dX11_read_139 (by decide) ?_
  refine lv_goto (tgt := 144) hx hb dX11_read_140 (by decide) ?_
  exact eX11_read_b144_41 C hret hm0 hKh hK322 σ v4 v5 v6 v8 (1 : Int32) _ _ _ hf hw (lv_sub hl [0, 1, 2, 3, 4, 5, 6] rfl)
set_option maxHeartbeats 4000000 in
set_option maxRecDepth 100000 in
theorem eX11_read_b143_41 {p : Program} {l : Launch} {e : Env} {s : State} {m : MethodId} {args : Array Value} {below : List Frame} {meth : Method} {c : Code} {E : EC} {lay : Nat → Nat → Nat} {L : List (Nat × Nat)} {A : Nat → Prop} (C : Cx p s m args c meth yX11_read.cls cX11_read 10 E A) (hret : meth.sig.returnType = none) {N : Nat} {a1 : Int32} {a2 : Int32} {Q : St → Prop} {Kh : St → Int32 → Int32 → Int32 → Prop} {Kx322 : St → Prop} (hm0 : (11, 0) ∈ L) (hKh : ∀ (σ : St) (w3 : Int32) (w4 : Int32) (w5 : Int32) (H : Heap) (locs : List Loc) (ls : Array Slot), Kh σ w3 w4 w5 → Wo E lay L A s σ H locs → lv_has ls 10 [(0, .ref (lay 11 0)), (1, .int a1), (2, .int a2), (3, .int w3), (4, .int w4), (5, .int w5)] → W p l e rmX11_read s m args below meth c H locs 0 0 (MQ below (va_Qv Q (Bd E lay L A) A) args s 0 0 A) (F0 m 41 ls [])) (hK322 : ∀ (σ : St) (H : Heap) (locs : List Loc) (ls : Array Slot), Kx322 σ → Wo E lay L A s σ H locs → lv_has ls 10 [] → W p l e rmX11_read s m args below meth c H locs 0 0 (MQ below (va_Qv Q (Bd E lay L A) A) args s 0 0 A) (F0 m 322 ls [])) (σ : St) (v4 : Int32) (v5 : Int32) (v6 : Int32) (v8 : Int32) (H : Heap) (locs : List Loc) (ls : Array Slot) (hf : fX11_read_b143_41 N a1 a2 Q Kh Kx322 σ v4 v5 v6 v8) (hw : Wo E lay L A s σ H locs) (hl : lv_has ls 10 [(0, .ref (lay 11 0)), (1, .int a1), (2, .int a2), (4, .int v4), (5, .int v5), (6, .int v6), (8, .int v8)]) : W p l e rmX11_read s m args below meth c H locs 0 0 (MQ below (va_Qv Q (Bd E lay L A) A) args s 0 0 A) (F0 m 143 ls []) := by
  have hx := C.1
  have hb := C.2.1
  unfold fX11_read_b143_41 at hf
  refine lv_iconst (v := 0) hx hb dX11_read_143 (by decide) ?_
  exact eX11_read_b144_41 C hret hm0 hKh hK322 σ v4 v5 v6 v8 (0 : Int32) _ _ _ hf hw (lv_sub hl [0, 1, 2, 3, 4, 5, 6] rfl)
set_option maxHeartbeats 4000000 in
set_option maxRecDepth 100000 in
theorem eX11_read_b121_41 {p : Program} {l : Launch} {e : Env} {s : State} {m : MethodId} {args : Array Value} {below : List Frame} {meth : Method} {c : Code} {E : EC} {lay : Nat → Nat → Nat} {L : List (Nat × Nat)} {A : Nat → Prop} (C : Cx p s m args c meth yX11_read.cls cX11_read 10 E A) (hret : meth.sig.returnType = none) {N : Nat} {a1 : Int32} {a2 : Int32} {Q : St → Prop} {Kh : St → Int32 → Int32 → Int32 → Prop} {Kx322 : St → Prop} (hm0 : (11, 0) ∈ L) (hKh : ∀ (σ : St) (w3 : Int32) (w4 : Int32) (w5 : Int32) (H : Heap) (locs : List Loc) (ls : Array Slot), Kh σ w3 w4 w5 → Wo E lay L A s σ H locs → lv_has ls 10 [(0, .ref (lay 11 0)), (1, .int a1), (2, .int a2), (3, .int w3), (4, .int w4), (5, .int w5)] → W p l e rmX11_read s m args below meth c H locs 0 0 (MQ below (va_Qv Q (Bd E lay L A) A) args s 0 0 A) (F0 m 41 ls [])) (hK322 : ∀ (σ : St) (H : Heap) (locs : List Loc) (ls : Array Slot), Kx322 σ → Wo E lay L A s σ H locs → lv_has ls 10 [] → W p l e rmX11_read s m args below meth c H locs 0 0 (MQ below (va_Qv Q (Bd E lay L A) A) args s 0 0 A) (F0 m 322 ls [])) (σ : St) (v3 : Int32) (v4 : Int32) (v5 : Int32) (v6 : Int32) (v7 : Int32) (t0 : Int32) (H : Heap) (locs : List Loc) (ls : Array Slot) (hf : fX11_read_b121_41 N a1 a2 Q Kh Kx322 σ v3 v4 v5 v6 v7 t0) (hw : Wo E lay L A s σ H locs) (hl : lv_has ls 10 [(0, .ref (lay 11 0)), (1, .int a1), (2, .int a2), (3, .int v3), (4, .int v4), (5, .int v5), (6, .int v6), (7, .int v7)]) : W p l e rmX11_read s m args below meth c H locs 0 0 (MQ below (va_Qv Q (Bd E lay L A) A) args s 0 0 A) (F0 m 121 ls [.int t0]) := by
  have hx := C.1
  have hb := C.2.1
  unfold fX11_read_b121_41 at hf
  refine lv_istore (lv' := [(8, .int t0), (0, .ref (lay 11 0)), (1, .int a1), (2, .int a2), (3, .int v3), (4, .int v4), (5, .int v5), (6, .int v6), (7, .int v7)]) hx hb dX11_read_121 hl (by decide) rfl (fun ls hl => ?_)
  refine lv_iload hx hb dX11_read_123 (lv_at hl 8 rfl) ?_
  refine lv_if_ne (tgt := 139) hx hb dX11_read_125 (by decide) (fun c20 => ?_) (fun c20 => ?_)
  · replace hf := hf.1 c20
    exact eX11_read_b139_41 C hret hm0 hKh hK322 σ v4 v5 v6 t0 _ _ _ hf hw (lv_sub hl [1, 2, 3, 5, 6, 7, 0] rfl)
  · replace hf := hf.2 c20
    refine lv_iload_n hx hb dX11_read_128 rfl (lv_at hl 4 rfl) ?_
    refine lv_if_eq (tgt := 143) hx hb dX11_read_129 (by decide) (fun c54 => ?_) (fun c54 => ?_)
    · replace hf := hf.1 c54
      exact eX11_read_b143_41 C hret hm0 hKh hK322 σ v4 v5 v6 t0 _ _ _ hf hw (lv_sub hl [1, 2, 3, 5, 6, 7, 0] rfl)
    · replace hf := hf.2 c54
      refine lv_iload hx hb dX11_read_132 (lv_at hl 7 rfl) ?_
      refine lv_bipush (v := 93) hx hb dX11_read_134 (by decide) ?_
      refine lv_icmp_eq (tgt := 143) hx hb dX11_read_136 (by decide) (fun c55 => ?_) (fun c55 => ?_)
      · replace hf := hf.1 c55
        exact eX11_read_b143_41 C hret hm0 hKh hK322 σ v4 v5 v6 t0 _ _ _ hf hw (lv_sub hl [1, 2, 3, 5, 6, 7, 0] rfl)
      · replace hf := hf.2 c55
        exact eX11_read_b139_41 C hret hm0 hKh hK322 σ v4 v5 v6 t0 _ _ _ hf hw (lv_sub hl [1, 2, 3, 5, 6, 7, 0] rfl)
set_option maxHeartbeats 4000000 in
set_option maxRecDepth 100000 in
theorem eX11_read_b120_41 {p : Program} {l : Launch} {e : Env} {s : State} {m : MethodId} {args : Array Value} {below : List Frame} {meth : Method} {c : Code} {E : EC} {lay : Nat → Nat → Nat} {L : List (Nat × Nat)} {A : Nat → Prop} (C : Cx p s m args c meth yX11_read.cls cX11_read 10 E A) (hret : meth.sig.returnType = none) {N : Nat} {a1 : Int32} {a2 : Int32} {Q : St → Prop} {Kh : St → Int32 → Int32 → Int32 → Prop} {Kx322 : St → Prop} (hm0 : (11, 0) ∈ L) (hKh : ∀ (σ : St) (w3 : Int32) (w4 : Int32) (w5 : Int32) (H : Heap) (locs : List Loc) (ls : Array Slot), Kh σ w3 w4 w5 → Wo E lay L A s σ H locs → lv_has ls 10 [(0, .ref (lay 11 0)), (1, .int a1), (2, .int a2), (3, .int w3), (4, .int w4), (5, .int w5)] → W p l e rmX11_read s m args below meth c H locs 0 0 (MQ below (va_Qv Q (Bd E lay L A) A) args s 0 0 A) (F0 m 41 ls [])) (hK322 : ∀ (σ : St) (H : Heap) (locs : List Loc) (ls : Array Slot), Kx322 σ → Wo E lay L A s σ H locs → lv_has ls 10 [] → W p l e rmX11_read s m args below meth c H locs 0 0 (MQ below (va_Qv Q (Bd E lay L A) A) args s 0 0 A) (F0 m 322 ls [])) (σ : St) (v3 : Int32) (v4 : Int32) (v5 : Int32) (v6 : Int32) (v7 : Int32) (H : Heap) (locs : List Loc) (ls : Array Slot) (hf : fX11_read_b120_41 N a1 a2 Q Kh Kx322 σ v3 v4 v5 v6 v7) (hw : Wo E lay L A s σ H locs) (hl : lv_has ls 10 [(0, .ref (lay 11 0)), (1, .int a1), (2, .int a2), (3, .int v3), (4, .int v4), (5, .int v5), (6, .int v6), (7, .int v7)]) : W p l e rmX11_read s m args below meth c H locs 0 0 (MQ below (va_Qv Q (Bd E lay L A) A) args s 0 0 A) (F0 m 120 ls []) := by
  have hx := C.1
  have hb := C.2.1
  unfold fX11_read_b120_41 at hf
  refine lv_iconst (v := 0) hx hb dX11_read_120 (by decide) ?_
  exact eX11_read_b121_41 C hret hm0 hKh hK322 σ v3 v4 v5 v6 v7 (0 : Int32) _ _ _ hf hw (lv_sub hl [0, 1, 2, 3, 4, 5, 6, 7] rfl)
set_option maxHeartbeats 4000000 in
set_option maxRecDepth 100000 in
theorem eX11_read_b105_41 {p : Program} {l : Launch} {e : Env} {s : State} {m : MethodId} {args : Array Value} {below : List Frame} {meth : Method} {c : Code} {E : EC} {lay : Nat → Nat → Nat} {L : List (Nat × Nat)} {A : Nat → Prop} (C : Cx p s m args c meth yX11_read.cls cX11_read 10 E A) (hret : meth.sig.returnType = none) {N : Nat} {a1 : Int32} {a2 : Int32} {Q : St → Prop} {Kh : St → Int32 → Int32 → Int32 → Prop} {Kx322 : St → Prop} (hm0 : (11, 0) ∈ L) (hKh : ∀ (σ : St) (w3 : Int32) (w4 : Int32) (w5 : Int32) (H : Heap) (locs : List Loc) (ls : Array Slot), Kh σ w3 w4 w5 → Wo E lay L A s σ H locs → lv_has ls 10 [(0, .ref (lay 11 0)), (1, .int a1), (2, .int a2), (3, .int w3), (4, .int w4), (5, .int w5)] → W p l e rmX11_read s m args below meth c H locs 0 0 (MQ below (va_Qv Q (Bd E lay L A) A) args s 0 0 A) (F0 m 41 ls [])) (hK322 : ∀ (σ : St) (H : Heap) (locs : List Loc) (ls : Array Slot), Kx322 σ → Wo E lay L A s σ H locs → lv_has ls 10 [] → W p l e rmX11_read s m args below meth c H locs 0 0 (MQ below (va_Qv Q (Bd E lay L A) A) args s 0 0 A) (F0 m 322 ls [])) (σ : St) (v3 : Int32) (v4 : Int32) (v5 : Int32) (v6 : Int32) (v7 : Int32) (t0 : Int32) (t1 : Int32) (t2 : Int32) (t3 : Nat) (H : Heap) (locs : List Loc) (ls : Array Slot) (hf : fX11_read_b105_41 N a1 a2 Q Kh Kx322 σ v3 v4 v5 v6 v7 t0 t1 t2 t3) (hw : Wo E lay L A s σ H locs) (hl : lv_has ls 10 [(0, .ref (lay 11 0)), (1, .int a1), (2, .int a2), (3, .int v3), (4, .int v4), (5, .int v5), (6, .int v6), (7, .int v7)]) (ht3 : (73, t3) ∈ L) : W p l e rmX11_read s m args below meth c H locs 0 0 (MQ below (va_Qv Q (Bd E lay L A) A) args s 0 0 A) (F0 m 105 ls [.int t0, .int t1, .int t2, .ref (lay 73 t3)]) := by
  have hx := C.1
  have hb := C.2.1
  unfold fX11_read_b105_41 at hf
  refine lv_iadd hx hb dX11_read_105 ?_
  refine x_iast C hw ht3 (by decide) rfl hf.1 dX11_read_106 (fun σ18 H locs eσ18 hw => ?_)
  replace hf := hf.2 σ18 eσ18
  refine lv_iload_n hx hb dX11_read_107 rfl (lv_at hl 3 rfl) ?_
  refine lv_if_ne (tgt := 120) hx hb dX11_read_108 (by decide) (fun c19 => ?_) (fun c19 => ?_)
  · replace hf := hf.1 c19
    exact eX11_read_b120_41 C hret hm0 hKh hK322 σ18 v3 v4 v5 v6 v7 _ _ _ hf hw (lv_sub hl [0, 1, 2, 3, 4, 5, 6, 7] rfl)
  · replace hf := hf.2 c19
    refine lv_iload hx hb dX11_read_111 (lv_at hl 7 rfl) ?_
    refine lv_if_ne (tgt := 120) hx hb dX11_read_113 (by decide) (fun c56 => ?_) (fun c56 => ?_)
    · replace hf := hf.1 c56
      exact eX11_read_b120_41 C hret hm0 hKh hK322 σ18 v3 v4 v5 v6 v7 _ _ _ hf hw (lv_sub hl [0, 1, 2, 3, 4, 5, 6, 7] rfl)
    · replace hf := hf.2 c56
      refine lv_iconst (v := 1) hx hb dX11_read_116 (by decide) ?_
      refine lv_goto (tgt := 121) hx hb dX11_read_117 (by decide) ?_
      exact eX11_read_b121_41 C hret hm0 hKh hK322 σ18 v3 v4 v5 v6 v7 (1 : Int32) _ _ _ hf hw (lv_sub hl [0, 1, 2, 3, 4, 5, 6, 7] rfl)
set_option maxHeartbeats 4000000 in
set_option maxRecDepth 100000 in
theorem eX11_read_b86_41 {p : Program} {l : Launch} {e : Env} {s : State} {m : MethodId} {args : Array Value} {below : List Frame} {meth : Method} {c : Code} {E : EC} {lay : Nat → Nat → Nat} {L : List (Nat × Nat)} {A : Nat → Prop} (C : Cx p s m args c meth yX11_read.cls cX11_read 10 E A) (hret : meth.sig.returnType = none) {N : Nat} {a1 : Int32} {a2 : Int32} {Q : St → Prop} {Kh : St → Int32 → Int32 → Int32 → Prop} {Kx322 : St → Prop} (hm0 : (11, 0) ∈ L) (hKh : ∀ (σ : St) (w3 : Int32) (w4 : Int32) (w5 : Int32) (H : Heap) (locs : List Loc) (ls : Array Slot), Kh σ w3 w4 w5 → Wo E lay L A s σ H locs → lv_has ls 10 [(0, .ref (lay 11 0)), (1, .int a1), (2, .int a2), (3, .int w3), (4, .int w4), (5, .int w5)] → W p l e rmX11_read s m args below meth c H locs 0 0 (MQ below (va_Qv Q (Bd E lay L A) A) args s 0 0 A) (F0 m 41 ls [])) (hK322 : ∀ (σ : St) (H : Heap) (locs : List Loc) (ls : Array Slot), Kx322 σ → Wo E lay L A s σ H locs → lv_has ls 10 [] → W p l e rmX11_read s m args below meth c H locs 0 0 (MQ below (va_Qv Q (Bd E lay L A) A) args s 0 0 A) (F0 m 322 ls [])) (σ : St) (v3 : Int32) (v4 : Int32) (v5 : Int32) (v6 : Int32) (t0 : Int32) (H : Heap) (locs : List Loc) (ls : Array Slot) (hf : fX11_read_b86_41 N a1 a2 Q Kh Kx322 σ v3 v4 v5 v6 t0) (hw : Wo E lay L A s σ H locs) (hl : lv_has ls 10 [(0, .ref (lay 11 0)), (1, .int a1), (2, .int a2), (3, .int v3), (4, .int v4), (5, .int v5), (6, .int v6)]) : W p l e rmX11_read s m args below meth c H locs 0 0 (MQ below (va_Qv Q (Bd E lay L A) A) args s 0 0 A) (F0 m 86 ls [.int t0]) := by
  have hx := C.1
  have hb := C.2.1
  unfold fX11_read_b86_41 at hf
  refine lv_istore (lv' := [(7, .int t0), (0, .ref (lay 11 0)), (1, .int a1), (2, .int a2), (3, .int v3), (4, .int v4), (5, .int v5), (6, .int v6)]) hx hb dX11_read_86 hl (by decide) rfl (fun ls hl => ?_)
  refine lv_aload_n hx hb dX11_read_88 rfl (lv_at hl 1 rfl) ?_
  have hm_16 : (73, 0) ∈ L := hw.2.2.2.1 11 0 hm0 13 (by decide) (by decide) rfl
  refine x_get (v := .ref (lay 73 0)) (j := 13) C hw hm0 rfl (by decide) (by decide) rfl q893 dX11_read_89 ?_
  refine lv_iload_n hx hb dX11_read_92 rfl (lv_at hl 2 rfl) ?_
  refine lv_dup2_11 hx hb dX11_read_93 rfl rfl ?_
  refine x_iald C hw hm_16 (by decide) rfl hf.1 dX11_read_94 ?_
  replace hf := hf.2
  refine lv_iload hx hb dX11_read_95 (lv_at hl 0 rfl) ?_
  refine lv_if_eq (tgt := 104) hx hb dX11_read_97 (by decide) (fun c17 => ?_) (fun c17 => ?_)
  · replace hf := hf.1 c17
    refine lv_iconst (v := 0) hx hb dX11_read_104 (by decide) ?_
    exact eX11_read_b105_41 C hret hm0 hKh hK322 σ v3 v4 v5 v6 t0 (0 : Int32) (sA σ 73 0 (a1).toNatClampNeg) a1 0 _ _ _ hf hw (lv_sub hl [1, 2, 3, 4, 5, 6, 7, 0] rfl) hm_16
  · replace hf := hf.2 c17
    refine lv_iconst (v := 1) hx hb dX11_read_100 (by decide) ?_
    refine lv_goto (tgt := 105) hx hb dX11_read_101 (by decide) ?_
    exact eX11_read_b105_41 C hret hm0 hKh hK322 σ v3 v4 v5 v6 t0 (1 : Int32) (sA σ 73 0 (a1).toNatClampNeg) a1 0 _ _ _ hf hw (lv_sub hl [1, 2, 3, 4, 5, 6, 7, 0] rfl) hm_16
set_option maxHeartbeats 4000000 in
set_option maxRecDepth 100000 in
theorem eX11_read_b85_41 {p : Program} {l : Launch} {e : Env} {s : State} {m : MethodId} {args : Array Value} {below : List Frame} {meth : Method} {c : Code} {E : EC} {lay : Nat → Nat → Nat} {L : List (Nat × Nat)} {A : Nat → Prop} (C : Cx p s m args c meth yX11_read.cls cX11_read 10 E A) (hret : meth.sig.returnType = none) {N : Nat} {a1 : Int32} {a2 : Int32} {Q : St → Prop} {Kh : St → Int32 → Int32 → Int32 → Prop} {Kx322 : St → Prop} (hm0 : (11, 0) ∈ L) (hKh : ∀ (σ : St) (w3 : Int32) (w4 : Int32) (w5 : Int32) (H : Heap) (locs : List Loc) (ls : Array Slot), Kh σ w3 w4 w5 → Wo E lay L A s σ H locs → lv_has ls 10 [(0, .ref (lay 11 0)), (1, .int a1), (2, .int a2), (3, .int w3), (4, .int w4), (5, .int w5)] → W p l e rmX11_read s m args below meth c H locs 0 0 (MQ below (va_Qv Q (Bd E lay L A) A) args s 0 0 A) (F0 m 41 ls [])) (hK322 : ∀ (σ : St) (H : Heap) (locs : List Loc) (ls : Array Slot), Kx322 σ → Wo E lay L A s σ H locs → lv_has ls 10 [] → W p l e rmX11_read s m args below meth c H locs 0 0 (MQ below (va_Qv Q (Bd E lay L A) A) args s 0 0 A) (F0 m 322 ls [])) (σ : St) (v3 : Int32) (v4 : Int32) (v5 : Int32) (v6 : Int32) (H : Heap) (locs : List Loc) (ls : Array Slot) (hf : fX11_read_b85_41 N a1 a2 Q Kh Kx322 σ v3 v4 v5 v6) (hw : Wo E lay L A s σ H locs) (hl : lv_has ls 10 [(0, .ref (lay 11 0)), (1, .int a1), (2, .int a2), (3, .int v3), (4, .int v4), (5, .int v5), (6, .int v6)]) : W p l e rmX11_read s m args below meth c H locs 0 0 (MQ below (va_Qv Q (Bd E lay L A) A) args s 0 0 A) (F0 m 85 ls []) := by
  have hx := C.1
  have hb := C.2.1
  unfold fX11_read_b85_41 at hf
  refine lv_iconst (v := 0) hx hb dX11_read_85 (by decide) ?_
  exact eX11_read_b86_41 C hret hm0 hKh hK322 σ v3 v4 v5 v6 (0 : Int32) _ _ _ hf hw (lv_sub hl [0, 1, 2, 3, 4, 5, 6] rfl)
set_option maxHeartbeats 4000000 in
set_option maxRecDepth 100000 in
theorem eX11_read_l41 {p : Program} {l : Launch} {e : Env} {s : State} {m : MethodId} {args : Array Value} {below : List Frame} {meth : Method} {c : Code} {E : EC} {lay : Nat → Nat → Nat} {L : List (Nat × Nat)} {A : Nat → Prop} (C : Cx p s m args c meth yX11_read.cls cX11_read 10 E A) (hret : meth.sig.returnType = none) {N : Nat} {a1 : Int32} {a2 : Int32} {Q : St → Prop} {Kx322 : St → Prop} (hm0 : (11, 0) ∈ L) (hK322 : ∀ (σ : St) (H : Heap) (locs : List Loc) (ls : Array Slot), Kx322 σ → Wo E lay L A s σ H locs → lv_has ls 10 [] → W p l e rmX11_read s m args below meth c H locs 0 0 (MQ below (va_Qv Q (Bd E lay L A) A) args s 0 0 A) (F0 m 322 ls [])) : ∀ (n : Nat) (σ : St) (v3 : Int32) (v4 : Int32) (v5 : Int32) (H : Heap) (locs : List Loc) (ls : Array Slot), fX11_read_l41 N a1 a2 Q Kx322 n σ v3 v4 v5 → Wo E lay L A s σ H locs → lv_has ls 10 [(0, .ref (lay 11 0)), (1, .int a1), (2, .int a2), (3, .int v3), (4, .int v4), (5, .int v5)] → W p l e rmX11_read s m args below meth c H locs 0 0 (MQ below (va_Qv Q (Bd E lay L A) A) args s 0 0 A) (F0 m 41 ls []) := by
  have hx := C.1
  have hb := C.2.1
  intro n
  induction n with
  | zero => intro σ v3 v4 v5 H locs ls hf; exact hf.elim
  | succ n ih =>
    intro σ v3 v4 v5 H locs ls hf hw hl
    rw [fX11_read_l41] at hf
    refine lv_iload hx hb dX11_read_41 (lv_at hl 5 rfl) ?_
    refine lv_aload_n hx hb dX11_read_43 rfl (lv_at hl 0 rfl) ?_
    have hm_10 : (63, 0) ∈ L := hw.2.2.2.1 11 0 hm0 3 (by decide) (by decide) rfl
    refine x_get (v := .ref (lay 63 0)) (j := 3) C hw hm0 rfl (by decide) (by decide) rfl q883 dX11_read_44 ?_
    refine lv_iload_n hx hb dX11_read_47 rfl (lv_at hl 2 rfl) ?_
    refine x_iald C hw hm_10 (by decide) rfl hf.1 dX11_read_48 ?_
    replace hf := hf.2
    refine lv_icmp_ge (tgt := 322) hx hb dX11_read_49 (by decide) (fun c11 => ?_) (fun c11 => ?_)
    · replace hf := hf.1 c11
      exact hK322 σ _ _ _ hf hw (lv_sub hl [] rfl)
    · replace hf := hf.2 c11
      refine lv_aload_n hx hb dX11_read_52 rfl (lv_at hl 0 rfl) ?_
      have hm_12 : (64, 0) ∈ L := hw.2.2.2.1 11 0 hm0 4 (by decide) (by decide) rfl
      refine x_get (v := .ref (lay 64 0)) (j := 4) C hw hm0 rfl (by decide) (by decide) rfl q884 dX11_read_53 ?_
      refine lv_sipush (v := 200) hx hb dX11_read_56 (by decide) ?_
      refine lv_iload_n hx hb dX11_read_59 rfl (lv_at hl 2 rfl) ?_
      refine lv_imul hx hb dX11_read_60 ?_
      refine lv_iload hx hb dX11_read_61 (lv_at hl 5 rfl) ?_
      refine lv_iadd hx hb dX11_read_63 ?_
      refine x_iald C hw hm_12 (by decide) rfl hf.1 dX11_read_64 ?_
      replace hf := hf.2
      refine x_runi hw (x_S (n := 1) (rest := []) C hw (eX11_small hf) q1015 q1016 q53 q1017 rfl rfl (by decide +kernel) ⟨Nat.le_of_ble_eq_true rfl, Nat.le_of_ble_eq_true rfl⟩ rfl hl.1 rfl (Nat.le_of_ble_eq_true rfl) dX11_read_65) (fun r14 σ13 H locs hf hw => ?_)
      try dsimp only at hf
      refine lv_istore (lv' := [(6, .int r14), (0, .ref (lay 11 0)), (1, .int a1), (2, .int a2), (3, .int v3), (4, .int v4), (5, .int v5)]) hx hb dX11_read_68 hl (by decide) rfl (fun ls hl => ?_)
      refine lv_iload_n hx hb dX11_read_70 rfl (lv_at hl 4 rfl) ?_
      refine lv_if_ne (tgt := 85) hx hb dX11_read_71 (by decide) (fun c15 => ?_) (fun c15 => ?_)
      · replace hf := hf.1 c15
        exact eX11_read_b85_41 C hret hm0 ih hK322 σ13 v3 v4 v5 r14 _ _ _ hf hw (lv_sub hl [1, 2, 3, 4, 5, 6, 0] rfl)
      · replace hf := hf.2 c15
        refine lv_iload hx hb dX11_read_74 (lv_at hl 0 rfl) ?_
        refine lv_bipush (v := 91) hx hb dX11_read_76 (by decide) ?_
        refine lv_icmp_ne (tgt := 85) hx hb dX11_read_78 (by decide) (fun c57 => ?_) (fun c57 => ?_)
        · replace hf := hf.1 c57
          exact eX11_read_b85_41 C hret hm0 ih hK322 σ13 v3 v4 v5 r14 _ _ _ hf hw (lv_sub hl [1, 2, 3, 4, 5, 6, 0] rfl)
        · replace hf := hf.2 c57
          refine lv_iconst (v := 1) hx hb dX11_read_81 (by decide) ?_
          refine lv_goto (tgt := 86) hx hb dX11_read_82 (by decide) ?_
          exact eX11_read_b86_41 C hret hm0 ih hK322 σ13 v3 v4 v5 r14 (1 : Int32) _ _ _ hf hw (lv_sub hl [1, 2, 3, 4, 5, 6, 0] rfl)
def fX11_read (N : Nat) (σ : St) (a1 : Int32) (a2 : Int32) (Q : St → Prop) : Prop := (vp_in a2 4 ∧ (vp_in a1 15 ∧ ∀ σ3 : St, σ3 = setA σ 71 0 (a1).toNatClampNeg (sA σ 63 0 (a2).toNatClampNeg) → (vp_in a1 15 ∧ ∀ σ5 : St, σ5 = setA σ3 73 0 (a1).toNatClampNeg (0 : Int32) → (vp_in a1 15 ∧ ∀ σ7 : St, σ7 = setA σ5 74 0 (a1).toNatClampNeg (0 : Int32) → (vp_in a1 15 ∧ ∀ σ9 : St, σ9 = setA σ7 75 0 (a1).toNatClampNeg (0 : Int32) → fX11_read_l41 N a1 a2 Q (fun (σ58 : St) => Q σ58) N σ9 (0 : Int32) (0 : Int32) (0 : Int32))))))
set_option maxHeartbeats 4000000 in
set_option maxRecDepth 100000 in
theorem eX11_read {l : Launch} {E : EC} {lay : Nat → Nat → Nat} {L : List (Nat × Nat)} {A : Nat → Prop} {N : Nat} {σ : St} {a1 : Int32} {a2 : Int32} {Q : St → Prop} (hf : fX11_read N σ a1 a2 Q) (hm0 : (11, 0) ∈ L) : Met l yX11_read (.code yX11_read cX11_read 10 (none) :: big) rmX11_read (va_Pc [.ref (lay 11 0), .int a1, .int a2] (Bp E lay L A σ)) (va_Qv Q (Bd E lay L A) A) 0 0 A := by
  refine x_met (by decide +kernel) (Nat.le_of_ble_eq_true rfl) ?_
  intro p e s m args below meth c ls C hret hw hl
  have hx := C.1
  have hb := C.2.1
  have hl : lv_has ls 10 [(0, .ref (lay 11 0)), (1, .int a1), (2, .int a2)] := hl
  unfold fX11_read at hf
  refine lv_iconst (v := 0) hx hb dX11_read_0 (by decide) ?_
  refine lv_istore_n (lv' := [(3, .int (0 : Int32)), (0, .ref (lay 11 0)), (1, .int a1), (2, .int a2)]) hx hb dX11_read_1 rfl hl (by decide) rfl (fun ls hl => ?_)
  refine lv_aload_n hx hb dX11_read_2 rfl (lv_at hl 1 rfl) ?_
  have hm_1 : (71, 0) ∈ L := hw.2.2.2.1 11 0 hm0 11 (by decide) (by decide) rfl
  refine x_get (v := .ref (lay 71 0)) (j := 11) C hw hm0 rfl (by decide) (by decide) rfl q891 dX11_read_3 ?_
  refine lv_iload_n hx hb dX11_read_6 rfl (lv_at hl 2 rfl) ?_
  refine lv_aload_n hx hb dX11_read_7 rfl (lv_at hl 1 rfl) ?_
  have hm_2 : (63, 0) ∈ L := hw.2.2.2.1 11 0 hm0 3 (by decide) (by decide) rfl
  refine x_get (v := .ref (lay 63 0)) (j := 3) C hw hm0 rfl (by decide) (by decide) rfl q883 dX11_read_8 ?_
  refine lv_iload_n hx hb dX11_read_11 rfl (lv_at hl 3 rfl) ?_
  refine x_iald C hw hm_2 (by decide) rfl hf.1 dX11_read_12 ?_
  replace hf := hf.2
  refine x_iast C hw hm_1 (by decide) rfl hf.1 dX11_read_13 (fun σ3 H locs eσ3 hw => ?_)
  replace hf := hf.2 σ3 eσ3
  refine lv_aload_n hx hb dX11_read_14 rfl (lv_at hl 1 rfl) ?_
  have hm_4 : (73, 0) ∈ L := hw.2.2.2.1 11 0 hm0 13 (by decide) (by decide) rfl
  refine x_get (v := .ref (lay 73 0)) (j := 13) C hw hm0 rfl (by decide) (by decide) rfl q893 dX11_read_15 ?_
  refine lv_iload_n hx hb dX11_read_18 rfl (lv_at hl 2 rfl) ?_
  refine lv_iconst (v := 0) hx hb dX11_read_19 (by decide) ?_
  refine x_iast C hw hm_4 (by decide) rfl hf.1 dX11_read_20 (fun σ5 H locs eσ5 hw => ?_)
  replace hf := hf.2 σ5 eσ5
  refine lv_aload_n hx hb dX11_read_21 rfl (lv_at hl 1 rfl) ?_
  have hm_6 : (74, 0) ∈ L := hw.2.2.2.1 11 0 hm0 14 (by decide) (by decide) rfl
  refine x_get (v := .ref (lay 74 0)) (j := 14) C hw hm0 rfl (by decide) (by decide) rfl q894 dX11_read_22 ?_
  refine lv_iload_n hx hb dX11_read_25 rfl (lv_at hl 2 rfl) ?_
  refine lv_iconst (v := 0) hx hb dX11_read_26 (by decide) ?_
  refine x_iast C hw hm_6 (by decide) rfl hf.1 dX11_read_27 (fun σ7 H locs eσ7 hw => ?_)
  replace hf := hf.2 σ7 eσ7
  refine lv_aload_n hx hb dX11_read_28 rfl (lv_at hl 1 rfl) ?_
  have hm_8 : (75, 0) ∈ L := hw.2.2.2.1 11 0 hm0 15 (by decide) (by decide) rfl
  refine x_get (v := .ref (lay 75 0)) (j := 15) C hw hm0 rfl (by decide) (by decide) rfl q895 dX11_read_29 ?_
  refine lv_iload_n hx hb dX11_read_32 rfl (lv_at hl 2 rfl) ?_
  refine lv_iconst (v := 0) hx hb dX11_read_33 (by decide) ?_
  refine x_iast C hw hm_8 (by decide) rfl hf.1 dX11_read_34 (fun σ9 H locs eσ9 hw => ?_)
  replace hf := hf.2 σ9 eσ9
  refine lv_iconst (v := 0) hx hb dX11_read_35 (by decide) ?_
  refine lv_istore (lv' := [(4, .int (0 : Int32)), (3, .int (0 : Int32)), (0, .ref (lay 11 0)), (1, .int a1), (2, .int a2)]) hx hb dX11_read_36 hl (by decide) rfl (fun ls hl => ?_)
  refine lv_iconst (v := 0) hx hb dX11_read_38 (by decide) ?_
  refine lv_istore (lv' := [(5, .int (0 : Int32)), (4, .int (0 : Int32)), (3, .int (0 : Int32)), (0, .ref (lay 11 0)), (1, .int a1), (2, .int a2)]) hx hb dX11_read_39 hl (by decide) rfl (fun ls hl => ?_)
  refine eX11_read_l41 C hret hm0 ?_ N σ9 (0 : Int32) (0 : Int32) (0 : Int32) _ _ _ hf hw (lv_sub hl [3, 4, 5, 2, 1, 0] rfl)
  · intro σ58 H locs ls hf hw hl
    exact x_vret C hret hw hf dX11_read_322
-- X11_text
abbrev rmX11_text : Room := { frames := 4, cells := 0, slots := 0, locals := 91 }
def fX11_text_b122 (N : Nat) (a1 : Int32) (a2 : Int32) (a3 : Int32) (a4 : Int32) (Q : Int32 → St → Prop) (σ : St) (t0 : Int32) (t1 : Int32) (t2 : Nat) : Prop := (vp_in t1 15 ∧ ∀ σ21 : St, σ21 = setA σ 68 t2 (t1).toNatClampNeg t0 → (vp_in (sF σ21 11 0 6) 15 ∧ ∀ σ23 : St, σ23 = setA σ21 69 0 ((sF σ21 11 0 6)).toNatClampNeg a4 → ∀ σ24 : St, σ24 = setF σ23 11 0 6 ((sF σ23 11 0 6) + (1 : Int32)) → Q ((sF σ24 11 0 6) - (1 : Int32)) σ24))
def fX11_text_b53 (N : Nat) (a1 : Int32) (a2 : Int32) (a3 : Int32) (a4 : Int32) (Q : Int32 → St → Prop) (σ : St) : Prop := ((¬ (sF σ 11 0 6) = (14 : Int32) → (vp_in a2 4 ∧ ((0 ≤ (sA σ 63 0 (a2).toNatClampNeg) → fX11_read N σ (sF σ 11 0 6) a2 (fun (σ14 : St) => (vp_in (sF σ14 11 0 6) 15 ∧ ∀ σ16 : St, σ16 = setA σ14 67 0 ((sF σ14 11 0 6)).toNatClampNeg a1 → fX11_in N σ16 a1 (1 : Int32) (2 : Int32) (fun (r19 : Int32) (σ18 : St) => ((r19 = 0 → fX11_text_b122 N a1 a2 a3 a4 Q σ18 (-9 : Int32) (sF σ16 11 0 6) 0) ∧ (¬ r19 = 0 → fX11_text_b122 N a1 a2 a3 a4 Q σ18 a3 (sF σ16 11 0 6) 0)))))) ∧ (¬ 0 ≤ (sA σ 63 0 (a2).toNatClampNeg) → fX11_meets N σ (1 : Int32) (fun (r26 : Int32) (σ25 : St) => Q r26 σ25))))) ∧ ((sF σ 11 0 6) = (14 : Int32) → Q (-2 : Int32) σ))
def fX11_text_b34 (N : Nat) (a1 : Int32) (a2 : Int32) (a3 : Int32) (a4 : Int32) (Q : Int32 → St → Prop) (σ : St) : Prop := ((¬ a1 = (2 : Int32) → fX11_text_b53 N a1 a2 a3 a4 Q σ) ∧ (a1 = (2 : Int32) → fX11_in N σ a4 (0 : Int32) (9999 : Int32) (fun (r28 : Int32) (σ27 : St) => ((¬ r28 = 0 → fX11_text_b53 N a1 a2 a3 a4 Q σ27) ∧ (r28 = 0 → Q (-1 : Int32) σ27)))))
set_option maxHeartbeats 4000000 in
set_option maxRecDepth 100000 in
theorem eX11_text_b122 {p : Program} {l : Launch} {e : Env} {s : State} {m : MethodId} {args : Array Value} {below : List Frame} {meth : Method} {c : Code} {E : EC} {lay : Nat → Nat → Nat} {L : List (Nat × Nat)} {A : Nat → Prop} (C : Cx p s m args c meth yX11_text.cls cX11_text 5 E A) (hret : meth.sig.returnType = some .int) {N : Nat} {a1 : Int32} {a2 : Int32} {a3 : Int32} {a4 : Int32} {Q : Int32 → St → Prop} (hm0 : (11, 0) ∈ L) (σ : St) (t0 : Int32) (t1 : Int32) (t2 : Nat) (H : Heap) (locs : List Loc) (ls : Array Slot) (hf : fX11_text_b122 N a1 a2 a3 a4 Q σ t0 t1 t2) (hw : Wo E lay L A s σ H locs) (hl : lv_has ls 5 [(0, .ref (lay 11 0)), (4, .int a4)]) (ht2 : (68, t2) ∈ L) : W p l e rmX11_text s m args below meth c H locs 0 0 (MQ below (va_Qi Q (Bd E lay L A) A) args s 0 0 A) (F0 m 122 ls [.int t0, .int t1, .ref (lay 68 t2)]) := by
  have hx := C.1
  have hb := C.2.1
  unfold fX11_text_b122 at hf
  refine x_iast C hw ht2 (by decide) rfl hf.1 dX11_text_122 (fun σ21 H locs eσ21 hw => ?_)
  replace hf := hf.2 σ21 eσ21
  refine lv_aload_n hx hb dX11_text_123 rfl (lv_at hl 0 rfl) ?_
  have hm_22 : (69, 0) ∈ L := hw.2.2.2.1 11 0 hm0 9 (by decide) (by decide) rfl
  refine x_get (v := .ref (lay 69 0)) (j := 9) C hw hm0 rfl (by decide) (by decide) rfl q889 dX11_text_124 ?_
  refine lv_aload_n hx hb dX11_text_127 rfl (lv_at hl 0 rfl) ?_
  refine x_get (v := .int (sF σ21 11 0 6)) (j := 6) C hw hm0 rfl (by decide) (by decide) rfl q886 dX11_text_128 ?_
  refine lv_iload hx hb dX11_text_131 (lv_at hl 1 rfl) ?_
  refine x_iast C hw hm_22 (by decide) rfl hf.1 dX11_text_133 (fun σ23 H locs eσ23 hw => ?_)
  replace hf := hf.2 σ23 eσ23
  refine lv_aload_n hx hb dX11_text_134 rfl (lv_at hl 0 rfl) ?_
  refine lv_dup hx hb dX11_text_135 rfl ?_
  refine x_get (v := .int (sF σ23 11 0 6)) (j := 6) C hw hm0 rfl (by decide) (by decide) rfl q886 dX11_text_136 ?_
  refine lv_iconst (v := 1) hx hb dX11_text_139 (by decide) ?_
  refine lv_iadd hx hb dX11_text_140 ?_
  refine x_putI (j := 6) (ty := .int) C hw hm0 rfl (by decide) (by decide) rfl rfl (by decide +kernel) rfl rfl q886 dX11_text_141 (fun σ24 H locs eσ24 hw => ?_)
  replace hf := hf σ24 eσ24
  refine lv_aload_n hx hb dX11_text_144 rfl (lv_at hl 0 rfl) ?_
  refine x_get (v := .int (sF σ24 11 0 6)) (j := 6) C hw hm0 rfl (by decide) (by decide) rfl q886 dX11_text_145 ?_
  refine lv_iconst (v := 1) hx hb dX11_text_148 (by decide) ?_
  refine lv_isub hx hb dX11_text_149 ?_
  exact x_iret C hret hw hf dX11_text_150
set_option maxHeartbeats 4000000 in
set_option maxRecDepth 100000 in
theorem eX11_text_b53 {p : Program} {l : Launch} {e : Env} {s : State} {m : MethodId} {args : Array Value} {below : List Frame} {meth : Method} {c : Code} {E : EC} {lay : Nat → Nat → Nat} {L : List (Nat × Nat)} {A : Nat → Prop} (C : Cx p s m args c meth yX11_text.cls cX11_text 5 E A) (hret : meth.sig.returnType = some .int) {N : Nat} {a1 : Int32} {a2 : Int32} {a3 : Int32} {a4 : Int32} {Q : Int32 → St → Prop} (hm0 : (11, 0) ∈ L) (σ : St) (H : Heap) (locs : List Loc) (ls : Array Slot) (hf : fX11_text_b53 N a1 a2 a3 a4 Q σ) (hw : Wo E lay L A s σ H locs) (hl : lv_has ls 5 [(0, .ref (lay 11 0)), (1, .int a1), (2, .int a2), (3, .int a3), (4, .int a4)]) : W p l e rmX11_text s m args below meth c H locs 0 0 (MQ below (va_Qi Q (Bd E lay L A) A) args s 0 0 A) (F0 m 53 ls []) := by
  have hx := C.1
  have hb := C.2.1
  unfold fX11_text_b53 at hf
  refine lv_aload_n hx hb dX11_text_53 rfl (lv_at hl 0 rfl) ?_
  refine x_get (v := .int (sF σ 11 0 6)) (j := 6) C hw hm0 rfl (by decide) (by decide) rfl q886 dX11_text_54 ?_
  refine lv_bipush (v := 14) hx hb dX11_text_57 (by decide) ?_
  refine lv_icmp_ne (tgt := 65) hx hb dX11_text_59 (by decide) (fun c11 => ?_) (fun c11 => ?_)
  · replace hf := hf.1 c11
    refine lv_aload_n hx hb dX11_text_65 rfl (lv_at hl 0 rfl) ?_
    have hm_12 : (63, 0) ∈ L := hw.2.2.2.1 11 0 hm0 3 (by decide) (by decide) rfl
    refine x_get (v := .ref (lay 63 0)) (j := 3) C hw hm0 rfl (by decide) (by decide) rfl q883 dX11_text_66 ?_
    refine lv_iload_n hx hb dX11_text_69 rfl (lv_at hl 2 rfl) ?_
    refine x_iald C hw hm_12 (by decide) rfl hf.1 dX11_text_70 ?_
    replace hf := hf.2
    refine lv_if_ge (tgt := 80) hx hb dX11_text_71 (by decide) (fun c13 => ?_) (fun c13 => ?_)
    · replace hf := hf.1 c13
      refine lv_aload_n hx hb dX11_text_80 rfl (lv_at hl 0 rfl) ?_
      refine lv_aload_n hx hb dX11_text_81 rfl (lv_at hl 0 rfl) ?_
      refine x_get (v := .int (sF σ 11 0 6)) (j := 6) C hw hm0 rfl (by decide) (by decide) rfl q886 dX11_text_82 ?_
      refine lv_iload_n hx hb dX11_text_85 rfl (lv_at hl 2 rfl) ?_
      refine x_runv hw (x_V (n := 2) (rest := []) C hw hm0 (by decide) (eX11_read hf hm0) q1011 q1013 q24 q53 q1014 rfl rfl (by decide +kernel) ⟨Nat.le_of_ble_eq_true rfl, Nat.le_of_ble_eq_true rfl⟩ rfl hl.1 rfl (Nat.le_of_ble_eq_true rfl) dX11_text_86) (fun σ14 H locs hf hw => ?_)
      try dsimp only at hf
      refine lv_aload_n hx hb dX11_text_89 rfl (lv_at hl 0 rfl) ?_
      have hm_15 : (67, 0) ∈ L := hw.2.2.2.1 11 0 hm0 7 (by decide) (by decide) rfl
      refine x_get (v := .ref (lay 67 0)) (j := 7) C hw hm0 rfl (by decide) (by decide) rfl q887 dX11_text_90 ?_
      refine lv_aload_n hx hb dX11_text_93 rfl (lv_at hl 0 rfl) ?_
      refine x_get (v := .int (sF σ14 11 0 6)) (j := 6) C hw hm0 rfl (by decide) (by decide) rfl q886 dX11_text_94 ?_
      refine lv_iload_n hx hb dX11_text_97 rfl (lv_at hl 1 rfl) ?_
      refine x_iast C hw hm_15 (by decide) rfl hf.1 dX11_text_98 (fun σ16 H locs eσ16 hw => ?_)
      replace hf := hf.2 σ16 eσ16
      refine lv_aload_n hx hb dX11_text_99 rfl (lv_at hl 0 rfl) ?_
      have hm_17 : (68, 0) ∈ L := hw.2.2.2.1 11 0 hm0 8 (by decide) (by decide) rfl
      refine x_get (v := .ref (lay 68 0)) (j := 8) C hw hm0 rfl (by decide) (by decide) rfl q888 dX11_text_100 ?_
      refine lv_aload_n hx hb dX11_text_103 rfl (lv_at hl 0 rfl) ?_
      refine x_get (v := .int (sF σ16 11 0 6)) (j := 6) C hw hm0 rfl (by decide) (by decide) rfl q886 dX11_text_104 ?_
      refine lv_iload_n hx hb dX11_text_107 rfl (lv_at hl 1 rfl) ?_
      refine lv_iconst (v := 1) hx hb dX11_text_108 (by decide) ?_
      refine lv_iconst (v := 2) hx hb dX11_text_109 (by decide) ?_
      refine x_runi hw (x_S (n := 3) (rest := [.int (sF σ16 11 0 6), .ref (lay 68 0)]) C hw (eX11_in hf) q984 q985 q53 q986 rfl rfl (by decide +kernel) ⟨Nat.le_of_ble_eq_true rfl, Nat.le_of_ble_eq_true rfl⟩ rfl hl.1 rfl (Nat.le_of_ble_eq_true rfl) dX11_text_110) (fun r19 σ18 H locs hf hw => ?_)
      have hzr19 := hf.2
      replace hf := hf.1
      try dsimp only at hf
      refine lv_if_eq (tgt := 120) hx hb dX11_text_113 (by decide) (fun c20 => ?_) (fun c20 => ?_)
      · replace hf := hf.1 c20
        refine lv_bipush (v := (-9)) hx hb dX11_text_120 (by decide) ?_
        exact eX11_text_b122 C hret hm0 σ18 (-9 : Int32) (sF σ16 11 0 6) 0 _ _ _ hf hw (lv_sub hl [0, 4] rfl) hm_17
      · replace hf := hf.2 c20
        refine lv_iload_n hx hb dX11_text_116 rfl (lv_at hl 3 rfl) ?_
        refine lv_goto (tgt := 122) hx hb dX11_text_117 (by decide) ?_
        exact eX11_text_b122 C hret hm0 σ18 a3 (sF σ16 11 0 6) 0 _ _ _ hf hw (lv_sub hl [0, 4] rfl) hm_17
    · replace hf := hf.2 c13
      refine lv_aload_n hx hb dX11_text_74 rfl (lv_at hl 0 rfl) ?_
      refine lv_iconst (v := 1) hx hb dX11_text_75 (by decide) ?_
      refine x_runi hw (x_V (n := 1) (rest := []) C hw hm0 (by decide) (eX11_meets hf hm0) q987 q989 q22 q53 q990 rfl rfl (by decide +kernel) ⟨Nat.le_of_ble_eq_true rfl, Nat.le_of_ble_eq_true rfl⟩ rfl hl.1 rfl (Nat.le_of_ble_eq_true rfl) dX11_text_76) (fun r26 σ25 H locs hf hw => ?_)
      try dsimp only at hf
      exact x_iret C hret hw hf dX11_text_79
  · replace hf := hf.2 c11
    refine lv_bipush (v := (-2)) hx hb dX11_text_62 (by decide) ?_
    exact x_iret C hret hw hf dX11_text_64
set_option maxHeartbeats 4000000 in
set_option maxRecDepth 100000 in
theorem eX11_text_b34 {p : Program} {l : Launch} {e : Env} {s : State} {m : MethodId} {args : Array Value} {below : List Frame} {meth : Method} {c : Code} {E : EC} {lay : Nat → Nat → Nat} {L : List (Nat × Nat)} {A : Nat → Prop} (C : Cx p s m args c meth yX11_text.cls cX11_text 5 E A) (hret : meth.sig.returnType = some .int) {N : Nat} {a1 : Int32} {a2 : Int32} {a3 : Int32} {a4 : Int32} {Q : Int32 → St → Prop} (hm0 : (11, 0) ∈ L) (σ : St) (H : Heap) (locs : List Loc) (ls : Array Slot) (hf : fX11_text_b34 N a1 a2 a3 a4 Q σ) (hw : Wo E lay L A s σ H locs) (hl : lv_has ls 5 [(0, .ref (lay 11 0)), (1, .int a1), (2, .int a2), (3, .int a3), (4, .int a4)]) : W p l e rmX11_text s m args below meth c H locs 0 0 (MQ below (va_Qi Q (Bd E lay L A) A) args s 0 0 A) (F0 m 34 ls []) := by
  have hx := C.1
  have hb := C.2.1
  unfold fX11_text_b34 at hf
  refine lv_iload_n hx hb dX11_text_34 rfl (lv_at hl 1 rfl) ?_
  refine lv_iconst (v := 2) hx hb dX11_text_35 (by decide) ?_
  refine lv_icmp_ne (tgt := 53) hx hb dX11_text_36 (by decide) (fun c10 => ?_) (fun c10 => ?_)
  · replace hf := hf.1 c10
    exact eX11_text_b53 C hret hm0 σ _ _ _ hf hw (lv_sub hl [0, 1, 2, 3, 4] rfl)
  · replace hf := hf.2 c10
    refine lv_iload hx hb dX11_text_39 (lv_at hl 4 rfl) ?_
    refine lv_iconst (v := 0) hx hb dX11_text_41 (by decide) ?_
    refine lv_sipush (v := 9999) hx hb dX11_text_42 (by decide) ?_
    refine x_runi hw (x_S (n := 3) (rest := []) C hw (eX11_in hf) q984 q985 q53 q986 rfl rfl (by decide +kernel) ⟨Nat.le_of_ble_eq_true rfl, Nat.le_of_ble_eq_true rfl⟩ rfl hl.1 rfl (Nat.le_of_ble_eq_true rfl) dX11_text_45) (fun r28 σ27 H locs hf hw => ?_)
    have hzr28 := hf.2
    replace hf := hf.1
    try dsimp only at hf
    refine lv_if_ne (tgt := 53) hx hb dX11_text_48 (by decide) (fun c29 => ?_) (fun c29 => ?_)
    · replace hf := hf.1 c29
      exact eX11_text_b53 C hret hm0 σ27 _ _ _ hf hw (lv_sub hl [0, 1, 2, 3, 4] rfl)
    · replace hf := hf.2 c29
      refine lv_iconst (v := (-1)) hx hb dX11_text_51 (by decide) ?_
      exact x_iret C hret hw hf dX11_text_52
def fX11_text (N : Nat) (σ : St) (a1 : Int32) (a2 : Int32) (a3 : Int32) (a4 : Int32) (Q : Int32 → St → Prop) : Prop := fX11_in N σ a1 (0 : Int32) (3 : Int32) (fun (r2 : Int32) (σ1 : St) => ((r2 = 0 → Q (-1 : Int32) σ1) ∧ (¬ r2 = 0 → fX11_isSheet N σ1 a2 (fun (r5 : Int32) (σ4 : St) => ((r5 = 0 → Q (-1 : Int32) σ4) ∧ (¬ r5 = 0 → fX11_in N σ4 a1 (1 : Int32) (2 : Int32) (fun (r8 : Int32) (σ7 : St) => ((r8 = 0 → fX11_text_b34 N a1 a2 a3 a4 Q σ7) ∧ (¬ r8 = 0 → fX11_in N σ7 a3 (0 : Int32) (5 : Int32) (fun (r31 : Int32) (σ30 : St) => ((r31 = 0 → Q (-1 : Int32) σ30) ∧ (¬ r31 = 0 → fX11_text_b34 N a1 a2 a3 a4 Q σ30))))))))))))
set_option maxHeartbeats 4000000 in
set_option maxRecDepth 100000 in
theorem eX11_text {l : Launch} {E : EC} {lay : Nat → Nat → Nat} {L : List (Nat × Nat)} {A : Nat → Prop} {N : Nat} {σ : St} {a1 : Int32} {a2 : Int32} {a3 : Int32} {a4 : Int32} {Q : Int32 → St → Prop} (hf : fX11_text N σ a1 a2 a3 a4 Q) (hm0 : (11, 0) ∈ L) : Met l yX11_text (.code yX11_text cX11_text 5 (some .int) :: big) rmX11_text (va_Pc [.ref (lay 11 0), .int a1, .int a2, .int a3, .int a4] (Bp E lay L A σ)) (va_Qi Q (Bd E lay L A) A) 0 0 A := by
  refine x_met (by decide +kernel) (Nat.le_of_ble_eq_true rfl) ?_
  intro p e s m args below meth c ls C hret hw hl
  have hx := C.1
  have hb := C.2.1
  have hl : lv_has ls 5 [(0, .ref (lay 11 0)), (1, .int a1), (2, .int a2), (3, .int a3), (4, .int a4)] := hl
  unfold fX11_text at hf
  refine lv_iload_n hx hb dX11_text_0 rfl (lv_at hl 1 rfl) ?_
  refine lv_iconst (v := 0) hx hb dX11_text_1 (by decide) ?_
  refine lv_iconst (v := 3) hx hb dX11_text_2 (by decide) ?_
  refine x_runi hw (x_S (n := 3) (rest := []) C hw (eX11_in hf) q984 q985 q53 q986 rfl rfl (by decide +kernel) ⟨Nat.le_of_ble_eq_true rfl, Nat.le_of_ble_eq_true rfl⟩ rfl hl.1 rfl (Nat.le_of_ble_eq_true rfl) dX11_text_3) (fun r2 σ1 H locs hf hw => ?_)
  have hzr2 := hf.2
  replace hf := hf.1
  try dsimp only at hf
  refine lv_if_eq (tgt := 51) hx hb dX11_text_6 (by decide) (fun c3 => ?_) (fun c3 => ?_)
  · replace hf := hf.1 c3
    refine lv_iconst (v := (-1)) hx hb dX11_text_51 (by decide) ?_
    exact x_iret C hret hw hf dX11_text_52
  · replace hf := hf.2 c3
    refine lv_iload_n hx hb dX11_text_9 rfl (lv_at hl 2 rfl) ?_
    refine x_runi hw (x_S (n := 1) (rest := []) C hw (eX11_isSheet hf) q981 q982 q53 q983 rfl rfl (by decide +kernel) ⟨Nat.le_of_ble_eq_true rfl, Nat.le_of_ble_eq_true rfl⟩ rfl hl.1 rfl (Nat.le_of_ble_eq_true rfl) dX11_text_10) (fun r5 σ4 H locs hf hw => ?_)
    have hzr5 := hf.2
    replace hf := hf.1
    try dsimp only at hf
    refine lv_if_eq (tgt := 51) hx hb dX11_text_13 (by decide) (fun c6 => ?_) (fun c6 => ?_)
    · replace hf := hf.1 c6
      refine lv_iconst (v := (-1)) hx hb dX11_text_51 (by decide) ?_
      exact x_iret C hret hw hf dX11_text_52
    · replace hf := hf.2 c6
      refine lv_iload_n hx hb dX11_text_16 rfl (lv_at hl 1 rfl) ?_
      refine lv_iconst (v := 1) hx hb dX11_text_17 (by decide) ?_
      refine lv_iconst (v := 2) hx hb dX11_text_18 (by decide) ?_
      refine x_runi hw (x_S (n := 3) (rest := []) C hw (eX11_in hf) q984 q985 q53 q986 rfl rfl (by decide +kernel) ⟨Nat.le_of_ble_eq_true rfl, Nat.le_of_ble_eq_true rfl⟩ rfl hl.1 rfl (Nat.le_of_ble_eq_true rfl) dX11_text_19) (fun r8 σ7 H locs hf hw => ?_)
      have hzr8 := hf.2
      replace hf := hf.1
      try dsimp only at hf
      refine lv_if_eq (tgt := 34) hx hb dX11_text_22 (by decide) (fun c9 => ?_) (fun c9 => ?_)
      · replace hf := hf.1 c9
        exact eX11_text_b34 C hret hm0 σ7 _ _ _ hf hw (lv_sub hl [0, 1, 2, 3, 4] rfl)
      · replace hf := hf.2 c9
        refine lv_iload_n hx hb dX11_text_25 rfl (lv_at hl 3 rfl) ?_
        refine lv_iconst (v := 0) hx hb dX11_text_26 (by decide) ?_
        refine lv_iconst (v := 5) hx hb dX11_text_27 (by decide) ?_
        refine x_runi hw (x_S (n := 3) (rest := []) C hw (eX11_in hf) q984 q985 q53 q986 rfl rfl (by decide +kernel) ⟨Nat.le_of_ble_eq_true rfl, Nat.le_of_ble_eq_true rfl⟩ rfl hl.1 rfl (Nat.le_of_ble_eq_true rfl) dX11_text_28) (fun r31 σ30 H locs hf hw => ?_)
        have hzr31 := hf.2
        replace hf := hf.1
        try dsimp only at hf
        refine lv_if_eq (tgt := 51) hx hb dX11_text_31 (by decide) (fun c32 => ?_) (fun c32 => ?_)
        · replace hf := hf.1 c32
          refine lv_iconst (v := (-1)) hx hb dX11_text_51 (by decide) ?_
          exact x_iret C hret hw hf dX11_text_52
        · replace hf := hf.2 c32
          exact eX11_text_b34 C hret hm0 σ30 _ _ _ hf hw (lv_sub hl [0, 1, 2, 3, 4] rfl)
