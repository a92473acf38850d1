-- X11_isText
abbrev rmX11_isText : Room := { frames := 1, cells := 0, slots := 0, locals := 22 }
def fX11_isText (N : Nat) (σ : St) (a1 : Int32) (Q : Int32 → St → Prop) : Prop := fX11_in N σ a1 (0 : Int32) ((sF σ 11 0 6) - (1 : Int32)) (fun (r2 : Int32) (σ1 : St) => Q r2 σ1)
set_option maxHeartbeats 4000000 in
set_option maxRecDepth 100000 in
theorem eX11_isText {l : Launch} {E : EC} {lay : Nat → Nat → Nat} {L : List (Nat × Nat)} {A : Nat → Prop} {N : Nat} {σ : St} {a1 : Int32} {Q : Int32 → St → Prop} (hf : fX11_isText N σ a1 Q) (hm0 : (11, 0) ∈ L) : Met l yX11_isText (.code yX11_isText cX11_isText 2 (some .boolean) :: big) rmX11_isText (va_Pc [.ref (lay 11 0), .int a1] (Bp E lay L A σ)) (va_Qi (fun r u => Q r u ∧ narrow .boolean (.int r) = .int r) (Bd E lay L A) A) 0 0 A := by
  refine x_met (by decide +kernel) (Nat.le_of_ble_eq_true rfl) ?_
  intro p e s m args below meth c ls C hret hw hl
  have hx := C.1
  have hb := C.2.1
  have hl : lv_has ls 2 [(0, .ref (lay 11 0)), (1, .int a1)] := hl
  unfold fX11_isText at hf
  refine lv_iload_n hx hb dX11_isText_0 rfl (lv_at hl 1 rfl) ?_
  refine lv_iconst (v := 0) hx hb dX11_isText_1 (by decide) ?_
  refine lv_aload_n hx hb dX11_isText_2 rfl (lv_at hl 0 rfl) ?_
  refine x_get (v := .int (sF σ 11 0 6)) (j := 6) C hw hm0 rfl (by decide) (by decide) rfl q886 dX11_isText_3 ?_
  refine lv_iconst (v := 1) hx hb dX11_isText_6 (by decide) ?_
  refine lv_isub hx hb dX11_isText_7 ?_
  refine x_runi hw (x_S (n := 3) (rest := []) C hw (eX11_in hf) q984 q985 q53 q986 rfl rfl (by decide +kernel) ⟨Nat.le_of_ble_eq_true rfl, Nat.le_of_ble_eq_true rfl⟩ rfl hl.1 rfl (Nat.le_of_ble_eq_true rfl) dX11_isText_8) (fun r2 σ1 H locs hf hw => ?_)
  have hzr2 := hf.2
  replace hf := hf.1
  try dsimp only at hf
  exact x_zret C hret hzr2 hw ⟨hf, hzr2⟩ dX11_isText_11
-- X11_tells
abbrev rmX11_tells : Room := { frames := 0, cells := 0, slots := 0, locals := 0 }
def fX11_tells (N : Nat) (σ : St) (a1 : Int32) (a2 : Int32) (Q : Int32 → St → Prop) : Prop := ((¬ a2 = 0 → ((¬ a2 = (1 : Int32) → ((¬ a2 = (2 : Int32) → ((¬ a2 = (3 : Int32) → (vp_in a1 15 ∧ Q (sA σ 73 0 (a1).toNatClampNeg) σ)) ∧ (a2 = (3 : Int32) → (vp_in a1 15 ∧ Q (sA σ 74 0 (a1).toNatClampNeg) σ)))) ∧ (a2 = (2 : Int32) → (vp_in a1 15 ∧ Q (sA σ 75 0 (a1).toNatClampNeg) σ)))) ∧ (a2 = (1 : Int32) → (vp_in a1 15 ∧ Q (sA σ 68 0 (a1).toNatClampNeg) σ)))) ∧ (a2 = 0 → (vp_in a1 15 ∧ Q (sA σ 67 0 (a1).toNatClampNeg) σ)))
set_option maxHeartbeats 4000000 in
set_option maxRecDepth 100000 in
theorem eX11_tells {l : Launch} {E : EC} {lay : Nat → Nat → Nat} {L : List (Nat × Nat)} {A : Nat → Prop} {N : Nat} {σ : St} {a1 : Int32} {a2 : Int32} {Q : Int32 → St → Prop} (hf : fX11_tells N σ a1 a2 Q) (hm0 : (11, 0) ∈ L) : Met l yX11_tells (.code yX11_tells cX11_tells 3 (some .int) :: big) rmX11_tells (va_Pc [.ref (lay 11 0), .int a1, .int a2] (Bp E lay L A σ)) (va_Qi Q (Bd E lay L A) A) 0 0 A := by
  refine x_met (by decide +kernel) (Nat.le_of_ble_eq_true rfl) ?_
  intro p e s m args below meth c ls C hret hw hl
  have hx := C.1
  have hb := C.2.1
  have hl : lv_has ls 3 [(0, .ref (lay 11 0)), (1, .int a1), (2, .int a2)] := hl
  unfold fX11_tells at hf
  refine lv_iload_n hx hb dX11_tells_0 rfl (lv_at hl 2 rfl) ?_
  refine lv_if_ne (tgt := 13) hx hb dX11_tells_1 (by decide) (fun c1 => ?_) (fun c1 => ?_)
  · replace hf := hf.1 c1
    refine lv_iload_n hx hb dX11_tells_13 rfl (lv_at hl 2 rfl) ?_
    refine lv_iconst (v := 1) hx hb dX11_tells_14 (by decide) ?_
    refine lv_icmp_ne (tgt := 27) hx hb dX11_tells_15 (by decide) (fun c2 => ?_) (fun c2 => ?_)
    · replace hf := hf.1 c2
      refine lv_iload_n hx hb dX11_tells_27 rfl (lv_at hl 2 rfl) ?_
      refine lv_iconst (v := 2) hx hb dX11_tells_28 (by decide) ?_
      refine lv_icmp_ne (tgt := 41) hx hb dX11_tells_29 (by decide) (fun c3 => ?_) (fun c3 => ?_)
      · replace hf := hf.1 c3
        refine lv_iload_n hx hb dX11_tells_41 rfl (lv_at hl 2 rfl) ?_
        refine lv_iconst (v := 3) hx hb dX11_tells_42 (by decide) ?_
        refine lv_icmp_ne (tgt := 55) hx hb dX11_tells_43 (by decide) (fun c4 => ?_) (fun c4 => ?_)
        · replace hf := hf.1 c4
          refine lv_aload_n hx hb dX11_tells_55 rfl (lv_at hl 0 rfl) ?_
          have hm_5 : (73, 0) ∈ L := hw.2.2.2.1 11 0 hm0 13 (by decide) (by decide) rfl
          refine x_get (v := .ref (lay 73 0)) (j := 13) C hw hm0 rfl (by decide) (by decide) rfl q893 dX11_tells_56 ?_
          refine lv_iload_n hx hb dX11_tells_59 rfl (lv_at hl 1 rfl) ?_
          refine x_iald C hw hm_5 (by decide) rfl hf.1 dX11_tells_60 ?_
          replace hf := hf.2
          exact x_iret C hret hw hf dX11_tells_61
        · replace hf := hf.2 c4
          refine lv_aload_n hx hb dX11_tells_46 rfl (lv_at hl 0 rfl) ?_
          have hm_6 : (74, 0) ∈ L := hw.2.2.2.1 11 0 hm0 14 (by decide) (by decide) rfl
          refine x_get (v := .ref (lay 74 0)) (j := 14) C hw hm0 rfl (by decide) (by decide) rfl q894 dX11_tells_47 ?_
          refine lv_iload_n hx hb dX11_tells_50 rfl (lv_at hl 1 rfl) ?_
          refine x_iald C hw hm_6 (by decide) rfl hf.1 dX11_tells_51 ?_
          replace hf := hf.2
          refine lv_goto (tgt := 61) hx hb dX11_tells_52 (by decide) ?_
          exact x_iret C hret hw hf dX11_tells_61
      · replace hf := hf.2 c3
        refine lv_aload_n hx hb dX11_tells_32 rfl (lv_at hl 0 rfl) ?_
        have hm_7 : (75, 0) ∈ L := hw.2.2.2.1 11 0 hm0 15 (by decide) (by decide) rfl
        refine x_get (v := .ref (lay 75 0)) (j := 15) C hw hm0 rfl (by decide) (by decide) rfl q895 dX11_tells_33 ?_
        refine lv_iload_n hx hb dX11_tells_36 rfl (lv_at hl 1 rfl) ?_
        refine x_iald C hw hm_7 (by decide) rfl hf.1 dX11_tells_37 ?_
        replace hf := hf.2
        refine lv_goto (tgt := 61) hx hb dX11_tells_38 (by decide) ?_
        exact x_iret C hret hw hf dX11_tells_61
    · replace hf := hf.2 c2
      refine lv_aload_n hx hb dX11_tells_18 rfl (lv_at hl 0 rfl) ?_
      have hm_8 : (68, 0) ∈ L := hw.2.2.2.1 11 0 hm0 8 (by decide) (by decide) rfl
      refine x_get (v := .ref (lay 68 0)) (j := 8) C hw hm0 rfl (by decide) (by decide) rfl q888 dX11_tells_19 ?_
      refine lv_iload_n hx hb dX11_tells_22 rfl (lv_at hl 1 rfl) ?_
      refine x_iald C hw hm_8 (by decide) rfl hf.1 dX11_tells_23 ?_
      replace hf := hf.2
      refine lv_goto (tgt := 61) hx hb dX11_tells_24 (by decide) ?_
      exact x_iret C hret hw hf dX11_tells_61
  · replace hf := hf.2 c1
    refine lv_aload_n hx hb dX11_tells_4 rfl (lv_at hl 0 rfl) ?_
    have hm_9 : (67, 0) ∈ L := hw.2.2.2.1 11 0 hm0 7 (by decide) (by decide) rfl
    refine x_get (v := .ref (lay 67 0)) (j := 7) C hw hm0 rfl (by decide) (by decide) rfl q887 dX11_tells_5 ?_
    refine lv_iload_n hx hb dX11_tells_8 rfl (lv_at hl 1 rfl) ?_
    refine x_iald C hw hm_9 (by decide) rfl hf.1 dX11_tells_9 ?_
    replace hf := hf.2
    refine lv_goto (tgt := 61) hx hb dX11_tells_10 (by decide) ?_
    exact x_iret C hret hw hf dX11_tells_61
-- X11_told
abbrev rmX11_told : Room := { frames := 2, cells := 0, slots := 0, locals := 43 }
def fX11_told (N : Nat) (σ : St) (a1 : Int32) (a2 : Int32) (Q : Int32 → St → Prop) : Prop := fX11_isText N σ a1 (fun (r2 : Int32) (σ1 : St) => ((r2 = 0 → Q (-1 : Int32) σ1) ∧ (¬ r2 = 0 → fX11_in N σ1 a2 (0 : Int32) (4 : Int32) (fun (r5 : Int32) (σ4 : St) => ((¬ r5 = 0 → (vp_in a1 15 ∧ (((sA σ4 70 0 (a1).toNatClampNeg) = 0 → fX11_tells N σ4 a1 a2 (fun (r10 : Int32) (σ9 : St) => Q r10 σ9)) ∧ (¬ (sA σ4 70 0 (a1).toNatClampNeg) = 0 → fX11_meets N σ4 (1 : Int32) (fun (r12 : Int32) (σ11 : St) => Q r12 σ11))))) ∧ (r5 = 0 → Q (-1 : Int32) σ4))))))
set_option maxHeartbeats 4000000 in
set_option maxRecDepth 100000 in
theorem eX11_told {l : Launch} {E : EC} {lay : Nat → Nat → Nat} {L : List (Nat × Nat)} {A : Nat → Prop} {N : Nat} {σ : St} {a1 : Int32} {a2 : Int32} {Q : Int32 → St → Prop} (hf : fX11_told N σ a1 a2 Q) (hm0 : (11, 0) ∈ L) : Met l yX11_told (.code yX11_told cX11_told 3 (some .int) :: big) rmX11_told (va_Pc [.ref (lay 11 0), .int a1, .int a2] (Bp E lay L A σ)) (va_Qi Q (Bd E lay L A) A) 0 0 A := by
  refine x_met (by decide +kernel) (Nat.le_of_ble_eq_true rfl) ?_
  intro p e s m args below meth c ls C hret hw hl
  have hx := C.1
  have hb := C.2.1
  have hl : lv_has ls 3 [(0, .ref (lay 11 0)), (1, .int a1), (2, .int a2)] := hl
  unfold fX11_told at hf
  refine lv_aload_n hx hb dX11_told_0 rfl (lv_at hl 0 rfl) ?_
  refine lv_iload_n hx hb dX11_told_1 rfl (lv_at hl 1 rfl) ?_
  refine x_runi hw (x_V (n := 1) (rest := []) C hw hm0 (by decide) (eX11_isText hf hm0) q1028 q1030 q25 q53 q1031 rfl rfl (by decide +kernel) ⟨Nat.le_of_ble_eq_true rfl, Nat.le_of_ble_eq_true rfl⟩ rfl hl.1 rfl (Nat.le_of_ble_eq_true rfl) dX11_told_2) (fun r2 σ1 H locs hf hw => ?_)
  have hzr2 := hf.2
  replace hf := hf.1
  try dsimp only at hf
  refine lv_if_eq (tgt := 17) hx hb dX11_told_5 (by decide) (fun c3 => ?_) (fun c3 => ?_)
  · replace hf := hf.1 c3
    refine lv_iconst (v := (-1)) hx hb dX11_told_17 (by decide) ?_
    exact x_iret C hret hw hf dX11_told_18
  · replace hf := hf.2 c3
    refine lv_iload_n hx hb dX11_told_8 rfl (lv_at hl 2 rfl) ?_
    refine lv_iconst (v := 0) hx hb dX11_told_9 (by decide) ?_
    refine lv_iconst (v := 4) hx hb dX11_told_10 (by decide) ?_
    refine x_runi hw (x_S (n := 3) (rest := []) C hw (eX11_in hf) q984 q985 q53 q986 rfl rfl (by decide +kernel) ⟨Nat.le_of_ble_eq_true rfl, Nat.le_of_ble_eq_true rfl⟩ rfl hl.1 rfl (Nat.le_of_ble_eq_true rfl) dX11_told_11) (fun r5 σ4 H locs hf hw => ?_)
    have hzr5 := hf.2
    replace hf := hf.1
    try dsimp only at hf
    refine lv_if_ne (tgt := 19) hx hb dX11_told_14 (by decide) (fun c6 => ?_) (fun c6 => ?_)
    · replace hf := hf.1 c6
      refine lv_aload_n hx hb dX11_told_19 rfl (lv_at hl 0 rfl) ?_
      have hm_7 : (70, 0) ∈ L := hw.2.2.2.1 11 0 hm0 10 (by decide) (by decide) rfl
      refine x_get (v := .ref (lay 70 0)) (j := 10) C hw hm0 rfl (by decide) (by decide) rfl q890 dX11_told_20 ?_
      refine lv_iload_n hx hb dX11_told_23 rfl (lv_at hl 1 rfl) ?_
      refine x_zald C hw hm_7 (by decide) rfl hf.1 dX11_told_24 ?_
      replace hf := hf.2
      refine lv_if_eq (tgt := 36) hx hb dX11_told_25 (by decide) (fun c8 => ?_) (fun c8 => ?_)
      · replace hf := hf.1 c8
        refine lv_aload_n hx hb dX11_told_36 rfl (lv_at hl 0 rfl) ?_
        refine lv_iload_n hx hb dX11_told_37 rfl (lv_at hl 1 rfl) ?_
        refine lv_iload_n hx hb dX11_told_38 rfl (lv_at hl 2 rfl) ?_
        refine x_runi hw (x_V (n := 2) (rest := []) C hw hm0 (by decide) (eX11_tells hf hm0) q1032 q1034 q26 q53 q1035 rfl rfl (by decide +kernel) ⟨Nat.le_of_ble_eq_true rfl, Nat.le_of_ble_eq_true rfl⟩ rfl hl.1 rfl (Nat.le_of_ble_eq_true rfl) dX11_told_39) (fun r10 σ9 H locs hf hw => ?_)
        try dsimp only at hf
        exact x_iret C hret hw hf dX11_told_42
      · replace hf := hf.2 c8
        refine lv_aload_n hx hb dX11_told_28 rfl (lv_at hl 0 rfl) ?_
        refine lv_iconst (v := 1) hx hb dX11_told_29 (by decide) ?_
        refine x_runi hw (x_V (n := 1) (rest := []) C hw hm0 (by decide) (eX11_meets hf hm0) q987 q989 q22 q53 q990 rfl rfl (by decide +kernel) ⟨Nat.le_of_ble_eq_true rfl, Nat.le_of_ble_eq_true rfl⟩ rfl hl.1 rfl (Nat.le_of_ble_eq_true rfl) dX11_told_30) (fun r12 σ11 H locs hf hw => ?_)
        try dsimp only at hf
        refine lv_goto (tgt := 42) hx hb dX11_told_33 (by decide) ?_
        exact x_iret C hret hw hf dX11_told_42
    · replace hf := hf.2 c6
      refine lv_iconst (v := (-1)) hx hb dX11_told_17 (by decide) ?_
      exact x_iret C hret hw hf dX11_told_18
-- X11_mark
abbrev rmX11_mark : Room := { frames := 2, cells := 0, slots := 0, locals := 43 }
def fX11_mark_b62 (N : Nat) (a1 : Int32) (a2 : Int32) (Q : Int32 → St → Prop) (σ : St) : Prop := ((¬ a2 = (1 : Int32) → ((¬ a2 = (2 : Int32) → (vp_in a1 15 ∧ Q (sA σ 75 0 (a1).toNatClampNeg) σ)) ∧ (a2 = (2 : Int32) → (vp_in a1 15 ∧ Q (sA σ 69 0 (a1).toNatClampNeg) σ)))) ∧ (a2 = (1 : Int32) → (vp_in a1 15 ∧ Q (sA σ 68 0 (a1).toNatClampNeg) σ)))
def fX11_mark_b56 (N : Nat) (a1 : Int32) (a2 : Int32) (Q : Int32 → St → Prop) (σ : St) : Prop := fX11_meets N σ (3 : Int32) (fun (r18 : Int32) (σ17 : St) => Q r18 σ17)
set_option maxHeartbeats 4000000 in
set_option maxRecDepth 100000 in
theorem eX11_mark_b62 {p : Program} {l : Launch} {e : Env} {s : State} {m : MethodId} {args : Array Value} {below : List Frame} {meth : Method} {c : Code} {E : EC} {lay : Nat → Nat → Nat} {L : List (Nat × Nat)} {A : Nat → Prop} (C : Cx p s m args c meth yX11_mark.cls cX11_mark 4 E A) (hret : meth.sig.returnType = some .int) {N : Nat} {a1 : Int32} {a2 : Int32} {Q : Int32 → St → Prop} (hm0 : (11, 0) ∈ L) (σ : St) (H : Heap) (locs : List Loc) (ls : Array Slot) (hf : fX11_mark_b62 N a1 a2 Q σ) (hw : Wo E lay L A s σ H locs) (hl : lv_has ls 4 [(0, .ref (lay 11 0)), (1, .int a1), (2, .int a2)]) : W p l e rmX11_mark s m args below meth c H locs 0 0 (MQ below (va_Qi Q (Bd E lay L A) A) args s 0 0 A) (F0 m 62 ls []) := by
  have hx := C.1
  have hb := C.2.1
  unfold fX11_mark_b62 at hf
  refine lv_iload_n hx hb dX11_mark_62 rfl (lv_at hl 2 rfl) ?_
  refine lv_iconst (v := 1) hx hb dX11_mark_63 (by decide) ?_
  refine lv_icmp_ne (tgt := 76) hx hb dX11_mark_64 (by decide) (fun c11 => ?_) (fun c11 => ?_)
  · replace hf := hf.1 c11
    refine lv_iload_n hx hb dX11_mark_76 rfl (lv_at hl 2 rfl) ?_
    refine lv_iconst (v := 2) hx hb dX11_mark_77 (by decide) ?_
    refine lv_icmp_ne (tgt := 90) hx hb dX11_mark_78 (by decide) (fun c12 => ?_) (fun c12 => ?_)
    · replace hf := hf.1 c12
      refine lv_aload_n hx hb dX11_mark_90 rfl (lv_at hl 0 rfl) ?_
      have hm_13 : (75, 0) ∈ L := hw.2.2.2.1 11 0 hm0 15 (by decide) (by decide) rfl
      refine x_get (v := .ref (lay 75 0)) (j := 15) C hw hm0 rfl (by decide) (by decide) rfl q895 dX11_mark_91 ?_
      refine lv_iload_n hx hb dX11_mark_94 rfl (lv_at hl 1 rfl) ?_
      refine x_iald C hw hm_13 (by decide) rfl hf.1 dX11_mark_95 ?_
      replace hf := hf.2
      exact x_iret C hret hw hf dX11_mark_96
    · replace hf := hf.2 c12
      refine lv_aload_n hx hb dX11_mark_81 rfl (lv_at hl 0 rfl) ?_
      have hm_14 : (69, 0) ∈ L := hw.2.2.2.1 11 0 hm0 9 (by decide) (by decide) rfl
      refine x_get (v := .ref (lay 69 0)) (j := 9) C hw hm0 rfl (by decide) (by decide) rfl q889 dX11_mark_82 ?_
      refine lv_iload_n hx hb dX11_mark_85 rfl (lv_at hl 1 rfl) ?_
      refine x_iald C hw hm_14 (by decide) rfl hf.1 dX11_mark_86 ?_
      replace hf := hf.2
      refine lv_goto (tgt := 96) hx hb dX11_mark_87 (by decide) ?_
      exact x_iret C hret hw hf dX11_mark_96
  · replace hf := hf.2 c11
    refine lv_aload_n hx hb dX11_mark_67 rfl (lv_at hl 0 rfl) ?_
    have hm_15 : (68, 0) ∈ L := hw.2.2.2.1 11 0 hm0 8 (by decide) (by decide) rfl
    refine x_get (v := .ref (lay 68 0)) (j := 8) C hw hm0 rfl (by decide) (by decide) rfl q888 dX11_mark_68 ?_
    refine lv_iload_n hx hb dX11_mark_71 rfl (lv_at hl 1 rfl) ?_
    refine x_iald C hw hm_15 (by decide) rfl hf.1 dX11_mark_72 ?_
    replace hf := hf.2
    refine lv_goto (tgt := 96) hx hb dX11_mark_73 (by decide) ?_
    exact x_iret C hret hw hf dX11_mark_96
set_option maxHeartbeats 4000000 in
set_option maxRecDepth 100000 in
theorem eX11_mark_b56 {p : Program} {l : Launch} {e : Env} {s : State} {m : MethodId} {args : Array Value} {below : List Frame} {meth : Method} {c : Code} {E : EC} {lay : Nat → Nat → Nat} {L : List (Nat × Nat)} {A : Nat → Prop} (C : Cx p s m args c meth yX11_mark.cls cX11_mark 4 E A) (hret : meth.sig.returnType = some .int) {N : Nat} {a1 : Int32} {a2 : Int32} {Q : Int32 → St → Prop} (hm0 : (11, 0) ∈ L) (σ : St) (H : Heap) (locs : List Loc) (ls : Array Slot) (hf : fX11_mark_b56 N a1 a2 Q σ) (hw : Wo E lay L A s σ H locs) (hl : lv_has ls 4 [(0, .ref (lay 11 0))]) : W p l e rmX11_mark s m args below meth c H locs 0 0 (MQ below (va_Qi Q (Bd E lay L A) A) args s 0 0 A) (F0 m 56 ls []) := by
  have hx := C.1
  have hb := C.2.1
  unfold fX11_mark_b56 at hf
  refine lv_aload_n hx hb dX11_mark_56 rfl (lv_at hl 0 rfl) ?_
  refine lv_iconst (v := 3) hx hb dX11_mark_57 (by decide) ?_
  refine x_runi hw (x_V (n := 1) (rest := []) C hw hm0 (by decide) (eX11_meets hf hm0) q987 q989 q22 q53 q990 rfl rfl (by decide +kernel) ⟨Nat.le_of_ble_eq_true rfl, Nat.le_of_ble_eq_true rfl⟩ rfl hl.1 rfl (Nat.le_of_ble_eq_true rfl) dX11_mark_58) (fun r18 σ17 H locs hf hw => ?_)
  try dsimp only at hf
  exact x_iret C hret hw hf dX11_mark_61
def fX11_mark (N : Nat) (σ : St) (a1 : Int32) (a2 : Int32) (Q : Int32 → St → Prop) : Prop := fX11_isText N σ a1 (fun (r2 : Int32) (σ1 : St) => ((r2 = 0 → Q (-1 : Int32) σ1) ∧ (¬ r2 = 0 → fX11_in N σ1 a2 (1 : Int32) (3 : Int32) (fun (r5 : Int32) (σ4 : St) => ((¬ r5 = 0 → (vp_in a1 15 ∧ (((sA σ4 70 0 (a1).toNatClampNeg) = 0 → (vp_in a1 15 ∧ ((a2 = (sA σ4 67 0 (a1).toNatClampNeg) → fX11_mark_b62 N a1 a2 Q σ4) ∧ (¬ a2 = (sA σ4 67 0 (a1).toNatClampNeg) → ((¬ a2 = (1 : Int32) → fX11_mark_b56 N a1 a2 Q σ4) ∧ (a2 = (1 : Int32) → (((sA σ4 67 0 (a1).toNatClampNeg) = (2 : Int32) → fX11_mark_b62 N a1 a2 Q σ4) ∧ (¬ (sA σ4 67 0 (a1).toNatClampNeg) = (2 : Int32) → fX11_mark_b56 N a1 a2 Q σ4)))))))) ∧ (¬ (sA σ4 70 0 (a1).toNatClampNeg) = 0 → fX11_meets N σ4 (1 : Int32) (fun (r21 : Int32) (σ20 : St) => Q r21 σ20))))) ∧ (r5 = 0 → Q (-1 : Int32) σ4))))))
set_option maxHeartbeats 4000000 in
set_option maxRecDepth 100000 in
theorem eX11_mark {l : Launch} {E : EC} {lay : Nat → Nat → Nat} {L : List (Nat × Nat)} {A : Nat → Prop} {N : Nat} {σ : St} {a1 : Int32} {a2 : Int32} {Q : Int32 → St → Prop} (hf : fX11_mark N σ a1 a2 Q) (hm0 : (11, 0) ∈ L) : Met l yX11_mark (.code yX11_mark cX11_mark 4 (some .int) :: big) rmX11_mark (va_Pc [.ref (lay 11 0), .int a1, .int a2] (Bp E lay L A σ)) (va_Qi Q (Bd E lay L A) A) 0 0 A := by
  refine x_met (by decide +kernel) (Nat.le_of_ble_eq_true rfl) ?_
  intro p e s m args below meth c ls C hret hw hl
  have hx := C.1
  have hb := C.2.1
  have hl : lv_has ls 4 [(0, .ref (lay 11 0)), (1, .int a1), (2, .int a2)] := hl
  unfold fX11_mark at hf
  refine lv_aload_n hx hb dX11_mark_0 rfl (lv_at hl 0 rfl) ?_
  refine lv_iload_n hx hb dX11_mark_1 rfl (lv_at hl 1 rfl) ?_
  refine x_runi hw (x_V (n := 1) (rest := []) C hw hm0 (by decide) (eX11_isText hf hm0) q1028 q1030 q25 q53 q1031 rfl rfl (by decide +kernel) ⟨Nat.le_of_ble_eq_true rfl, Nat.le_of_ble_eq_true rfl⟩ rfl hl.1 rfl (Nat.le_of_ble_eq_true rfl) dX11_mark_2) (fun r2 σ1 H locs hf hw => ?_)
  have hzr2 := hf.2
  replace hf := hf.1
  try dsimp only at hf
  refine lv_if_eq (tgt := 17) hx hb dX11_mark_5 (by decide) (fun c3 => ?_) (fun c3 => ?_)
  · replace hf := hf.1 c3
    refine lv_iconst (v := (-1)) hx hb dX11_mark_17 (by decide) ?_
    exact x_iret C hret hw hf dX11_mark_18
  · replace hf := hf.2 c3
    refine lv_iload_n hx hb dX11_mark_8 rfl (lv_at hl 2 rfl) ?_
    refine lv_iconst (v := 1) hx hb dX11_mark_9 (by decide) ?_
    refine lv_iconst (v := 3) hx hb dX11_mark_10 (by decide) ?_
    refine x_runi hw (x_S (n := 3) (rest := []) C hw (eX11_in hf) q984 q985 q53 q986 rfl rfl (by decide +kernel) ⟨Nat.le_of_ble_eq_true rfl, Nat.le_of_ble_eq_true rfl⟩ rfl hl.1 rfl (Nat.le_of_ble_eq_true rfl) dX11_mark_11) (fun r5 σ4 H locs hf hw => ?_)
    have hzr5 := hf.2
    replace hf := hf.1
    try dsimp only at hf
    refine lv_if_ne (tgt := 19) hx hb dX11_mark_14 (by decide) (fun c6 => ?_) (fun c6 => ?_)
    · replace hf := hf.1 c6
      refine lv_aload_n hx hb dX11_mark_19 rfl (lv_at hl 0 rfl) ?_
      have hm_7 : (70, 0) ∈ L := hw.2.2.2.1 11 0 hm0 10 (by decide) (by decide) rfl
      refine x_get (v := .ref (lay 70 0)) (j := 10) C hw hm0 rfl (by decide) (by decide) rfl q890 dX11_mark_20 ?_
      refine lv_iload_n hx hb dX11_mark_23 rfl (lv_at hl 1 rfl) ?_
      refine x_zald C hw hm_7 (by decide) rfl hf.1 dX11_mark_24 ?_
      replace hf := hf.2
      refine lv_if_eq (tgt := 34) hx hb dX11_mark_25 (by decide) (fun c8 => ?_) (fun c8 => ?_)
      · replace hf := hf.1 c8
        refine lv_aload_n hx hb dX11_mark_34 rfl (lv_at hl 0 rfl) ?_
        have hm_9 : (67, 0) ∈ L := hw.2.2.2.1 11 0 hm0 7 (by decide) (by decide) rfl
        refine x_get (v := .ref (lay 67 0)) (j := 7) C hw hm0 rfl (by decide) (by decide) rfl q887 dX11_mark_35 ?_
        refine lv_iload_n hx hb dX11_mark_38 rfl (lv_at hl 1 rfl) ?_
        refine x_iald C hw hm_9 (by decide) rfl hf.1 dX11_mark_39 ?_
        replace hf := hf.2
        refine lv_istore_n (lv' := [(3, .int (sA σ4 67 0 (a1).toNatClampNeg)), (0, .ref (lay 11 0)), (1, .int a1), (2, .int a2)]) hx hb dX11_mark_40 rfl hl (by decide) rfl (fun ls hl => ?_)
        refine lv_iload_n hx hb dX11_mark_41 rfl (lv_at hl 3 rfl) ?_
        refine lv_iload_n hx hb dX11_mark_42 rfl (lv_at hl 0 rfl) ?_
        refine lv_icmp_eq (tgt := 62) hx hb dX11_mark_43 (by decide) (fun c10 => ?_) (fun c10 => ?_)
        · replace hf := hf.1 c10
          exact eX11_mark_b62 C hret hm0 σ4 _ _ _ hf hw (lv_sub hl [1, 2, 3] rfl)
        · replace hf := hf.2 c10
          refine lv_iload_n hx hb dX11_mark_46 rfl (lv_at hl 3 rfl) ?_
          refine lv_iconst (v := 1) hx hb dX11_mark_47 (by decide) ?_
          refine lv_icmp_ne (tgt := 56) hx hb dX11_mark_48 (by decide) (fun c16 => ?_) (fun c16 => ?_)
          · replace hf := hf.1 c16
            exact eX11_mark_b56 C hret hm0 σ4 _ _ _ hf hw (lv_sub hl [1] rfl)
          · replace hf := hf.2 c16
            refine lv_iload_n hx hb dX11_mark_51 rfl (lv_at hl 0 rfl) ?_
            refine lv_iconst (v := 2) hx hb dX11_mark_52 (by decide) ?_
            refine lv_icmp_eq (tgt := 62) hx hb dX11_mark_53 (by decide) (fun c19 => ?_) (fun c19 => ?_)
            · replace hf := hf.1 c19
              exact eX11_mark_b62 C hret hm0 σ4 _ _ _ hf hw (lv_sub hl [1, 2, 3] rfl)
            · replace hf := hf.2 c19
              exact eX11_mark_b56 C hret hm0 σ4 _ _ _ hf hw (lv_sub hl [1] rfl)
      · replace hf := hf.2 c8
        refine lv_aload_n hx hb dX11_mark_28 rfl (lv_at hl 0 rfl) ?_
        refine lv_iconst (v := 1) hx hb dX11_mark_29 (by decide) ?_
        refine x_runi hw (x_V (n := 1) (rest := []) C hw hm0 (by decide) (eX11_meets hf hm0) q987 q989 q22 q53 q990 rfl rfl (by decide +kernel) ⟨Nat.le_of_ble_eq_true rfl, Nat.le_of_ble_eq_true rfl⟩ rfl hl.1 rfl (Nat.le_of_ble_eq_true rfl) dX11_mark_30) (fun r21 σ20 H locs hf hw => ?_)
        try dsimp only at hf
        exact x_iret C hret hw hf dX11_mark_33
    · replace hf := hf.2 c6
      refine lv_iconst (v := (-1)) hx hb dX11_mark_17 (by decide) ?_
      exact x_iret C hret hw hf dX11_mark_18
-- X11_withdraw
abbrev rmX11_withdraw : Room := { frames := 2, cells := 0, slots := 0, locals := 43 }
def fX11_withdraw (N : Nat) (σ : St) (a1 : Int32) (Q : Int32 → St → Prop) : Prop := fX11_isText N σ a1 (fun (r2 : Int32) (σ1 : St) => ((¬ r2 = 0 → (vp_in a1 15 ∧ (((sA σ1 70 0 (a1).toNatClampNeg) = 0 → (vp_in a1 15 ∧ ∀ σ7 : St, σ7 = setA σ1 70 0 (a1).toNatClampNeg (vp_nar .boolean (1 : Int32)) → Q (1 : Int32) σ7)) ∧ (¬ (sA σ1 70 0 (a1).toNatClampNeg) = 0 → fX11_meets N σ1 (1 : Int32) (fun (r9 : Int32) (σ8 : St) => Q r9 σ8))))) ∧ (r2 = 0 → Q (-1 : Int32) σ1)))
set_option maxHeartbeats 4000000 in
set_option maxRecDepth 100000 in
theorem eX11_withdraw {l : Launch} {E : EC} {lay : Nat → Nat → Nat} {L : List (Nat × Nat)} {A : Nat → Prop} {N : Nat} {σ : St} {a1 : Int32} {Q : Int32 → St → Prop} (hf : fX11_withdraw N σ a1 Q) (hm0 : (11, 0) ∈ L) : Met l yX11_withdraw (.code yX11_withdraw cX11_withdraw 2 (some .int) :: big) rmX11_withdraw (va_Pc [.ref (lay 11 0), .int a1] (Bp E lay L A σ)) (va_Qi Q (Bd E lay L A) A) 0 0 A := by
  refine x_met (by decide +kernel) (Nat.le_of_ble_eq_true rfl) ?_
  intro p e s m args below meth c ls C hret hw hl
  have hx := C.1
  have hb := C.2.1
  have hl : lv_has ls 2 [(0, .ref (lay 11 0)), (1, .int a1)] := hl
  unfold fX11_withdraw at hf
  refine lv_aload_n hx hb dX11_withdraw_0 rfl (lv_at hl 0 rfl) ?_
  refine lv_iload_n hx hb dX11_withdraw_1 rfl (lv_at hl 1 rfl) ?_
  refine x_runi hw (x_V (n := 1) (rest := []) C hw hm0 (by decide) (eX11_isText hf hm0) q1028 q1030 q25 q53 q1031 rfl rfl (by decide +kernel) ⟨Nat.le_of_ble_eq_true rfl, Nat.le_of_ble_eq_true rfl⟩ rfl hl.1 rfl (Nat.le_of_ble_eq_true rfl) dX11_withdraw_2) (fun r2 σ1 H locs hf hw => ?_)
  have hzr2 := hf.2
  replace hf := hf.1
  try dsimp only at hf
  refine lv_if_ne (tgt := 10) hx hb dX11_withdraw_5 (by decide) (fun c3 => ?_) (fun c3 => ?_)
  · replace hf := hf.1 c3
    refine lv_aload_n hx hb dX11_withdraw_10 rfl (lv_at hl 0 rfl) ?_
    have hm_4 : (70, 0) ∈ L := hw.2.2.2.1 11 0 hm0 10 (by decide) (by decide) rfl
    refine x_get (v := .ref (lay 70 0)) (j := 10) C hw hm0 rfl (by decide) (by decide) rfl q890 dX11_withdraw_11 ?_
    refine lv_iload_n hx hb dX11_withdraw_14 rfl (lv_at hl 1 rfl) ?_
    refine x_zald C hw hm_4 (by decide) rfl hf.1 dX11_withdraw_15 ?_
    replace hf := hf.2
    refine lv_if_eq (tgt := 25) hx hb dX11_withdraw_16 (by decide) (fun c5 => ?_) (fun c5 => ?_)
    · replace hf := hf.1 c5
      refine lv_aload_n hx hb dX11_withdraw_25 rfl (lv_at hl 0 rfl) ?_
      have hm_6 : (70, 0) ∈ L := hw.2.2.2.1 11 0 hm0 10 (by decide) (by decide) rfl
      refine x_get (v := .ref (lay 70 0)) (j := 10) C hw hm0 rfl (by decide) (by decide) rfl q890 dX11_withdraw_26 ?_
      refine lv_iload_n hx hb dX11_withdraw_29 rfl (lv_at hl 1 rfl) ?_
      refine lv_iconst (v := 1) hx hb dX11_withdraw_30 (by decide) ?_
      refine x_zast C hw hm_6 (by decide) rfl hf.1 dX11_withdraw_31 (fun σ7 H locs eσ7 hw => ?_)
      replace hf := hf.2 σ7 eσ7
      refine lv_iconst (v := 1) hx hb dX11_withdraw_32 (by decide) ?_
      exact x_iret C hret hw hf dX11_withdraw_33
    · replace hf := hf.2 c5
      refine lv_aload_n hx hb dX11_withdraw_19 rfl (lv_at hl 0 rfl) ?_
      refine lv_iconst (v := 1) hx hb dX11_withdraw_20 (by decide) ?_
      refine x_runi hw (x_V (n := 1) (rest := []) C hw hm0 (by decide) (eX11_meets hf hm0) q987 q989 q22 q53 q990 rfl rfl (by decide +kernel) ⟨Nat.le_of_ble_eq_true rfl, Nat.le_of_ble_eq_true rfl⟩ rfl hl.1 rfl (Nat.le_of_ble_eq_true rfl) dX11_withdraw_21) (fun r9 σ8 H locs hf hw => ?_)
      try dsimp only at hf
      exact x_iret C hret hw hf dX11_withdraw_24
  · replace hf := hf.2 c3
    refine lv_iconst (v := (-1)) hx hb dX11_withdraw_8 (by decide) ?_
    exact x_iret C hret hw hf dX11_withdraw_9
-- X11_isValue
abbrev rmX11_isValue : Room := { frames := 3, cells := 0, slots := 0, locals := 62 }
def fX11_isValue_b21 (N : Nat) (a0 : Int32) (a1 : Int32) (Q : Int32 → St → Prop) (σ : St) : Prop := Q (1 : Int32) σ
set_option maxHeartbeats 4000000 in
set_option maxRecDepth 100000 in
theorem eX11_isValue_b21 {p : Program} {l : Launch} {e : Env} {s : State} {m : MethodId} {args : Array Value} {below : List Frame} {meth : Method} {c : Code} {E : EC} {lay : Nat → Nat → Nat} {L : List (Nat × Nat)} {A : Nat → Prop} (C : Cx p s m args c meth yX11_isValue.cls cX11_isValue 2 E A) (hret : meth.sig.returnType = some .boolean) {N : Nat} {a0 : Int32} {a1 : Int32} {Q : Int32 → St → Prop} (σ : St) (H : Heap) (locs : List Loc) (ls : Array Slot) (hf : fX11_isValue_b21 N a0 a1 Q σ) (hw : Wo E lay L A s σ H locs) (hl : lv_has ls 2 []) : W p l e rmX11_isValue s m args below meth c H locs 0 0 (MQ below (va_Qi (fun r u => Q r u ∧ narrow .boolean (.int r) = .int r) (Bd E lay L A) A) args s 0 0 A) (F0 m 21 ls []) := by
  have hx := C.1
  have hb := C.2.1
  unfold fX11_isValue_b21 at hf
  refine lv_iconst (v := 1) hx hb dX11_isValue_21 (by decide) ?_
  refine lv_goto (tgt := 63) hx hb dX11_isValue_22 (by decide) ?_
  exact x_zret C hret (by decide) hw ⟨hf, by decide⟩ dX11_isValue_63
def fX11_isValue (N : Nat) (σ : St) (a0 : Int32) (a1 : Int32) (Q : Int32 → St → Prop) : Prop := ((¬ a0 = 0 → ((¬ a0 = (1 : Int32) → ((¬ a0 = (2 : Int32) → fX11_isSheet N σ a1 (fun (r5 : Int32) (σ4 : St) => Q r5 σ4)) ∧ (a0 = (2 : Int32) → fX11_small N σ a1 (fun (r7 : Int32) (σ6 : St) => fX11_isLetter N σ6 r7 (fun (r9 : Int32) (σ8 : St) => Q r9 σ8))))) ∧ (a0 = (1 : Int32) → fX11_in N σ a1 (1 : Int32) (12 : Int32) (fun (r11 : Int32) (σ10 : St) => Q r11 σ10)))) ∧ (a0 = 0 → fX11_small N σ a1 (fun (r13 : Int32) (σ12 : St) => fX11_isLetter N σ12 r13 (fun (r15 : Int32) (σ14 : St) => ((¬ r15 = 0 → fX11_isValue_b21 N a0 a1 Q σ14) ∧ (r15 = 0 → fX11_isMark N σ14 a1 (fun (r18 : Int32) (σ17 : St) => ((r18 = 0 → Q (0 : Int32) σ17) ∧ (¬ r18 = 0 → fX11_isValue_b21 N a0 a1 Q σ17)))))))))
set_option maxHeartbeats 4000000 in
set_option maxRecDepth 100000 in
theorem eX11_isValue {l : Launch} {E : EC} {lay : Nat → Nat → Nat} {L : List (Nat × Nat)} {A : Nat → Prop} {N : Nat} {σ : St} {a0 : Int32} {a1 : Int32} {Q : Int32 → St → Prop} (hf : fX11_isValue N σ a0 a1 Q) : Met l yX11_isValue (.code yX11_isValue cX11_isValue 2 (some .boolean) :: big) rmX11_isValue (va_Pc [.int a0, .int a1] (Bp E lay L A σ)) (va_Qi (fun r u => Q r u ∧ narrow .boolean (.int r) = .int r) (Bd E lay L A) A) 0 0 A := by
  refine x_met (by decide +kernel) (Nat.le_of_ble_eq_true rfl) ?_
  intro p e s m args below meth c ls C hret hw hl
  have hx := C.1
  have hb := C.2.1
  have hl : lv_has ls 2 [(0, .int a0), (1, .int a1)] := hl
  unfold fX11_isValue at hf
  refine lv_iload_n hx hb dX11_isValue_0 rfl (lv_at hl 0 rfl) ?_
  refine lv_if_ne (tgt := 29) hx hb dX11_isValue_1 (by decide) (fun c1 => ?_) (fun c1 => ?_)
  · replace hf := hf.1 c1
    refine lv_iload_n hx hb dX11_isValue_29 rfl (lv_at hl 0 rfl) ?_
    refine lv_iconst (v := 1) hx hb dX11_isValue_30 (by decide) ?_
    refine lv_icmp_ne (tgt := 44) hx hb dX11_isValue_31 (by decide) (fun c2 => ?_) (fun c2 => ?_)
    · replace hf := hf.1 c2
      refine lv_iload_n hx hb dX11_isValue_44 rfl (lv_at hl 0 rfl) ?_
      refine lv_iconst (v := 2) hx hb dX11_isValue_45 (by decide) ?_
      refine lv_icmp_ne (tgt := 59) hx hb dX11_isValue_46 (by decide) (fun c3 => ?_) (fun c3 => ?_)
      · replace hf := hf.1 c3
        refine lv_iload_n hx hb dX11_isValue_59 rfl (lv_at hl 1 rfl) ?_
        refine x_runi hw (x_S (n := 1) (rest := []) C hw (eX11_isSheet hf) q981 q982 q53 q983 rfl rfl (by decide +kernel) ⟨Nat.le_of_ble_eq_true rfl, Nat.le_of_ble_eq_true rfl⟩ rfl hl.1 rfl (Nat.le_of_ble_eq_true rfl) dX11_isValue_60) (fun r5 σ4 H locs hf hw => ?_)
        have hzr5 := hf.2
        replace hf := hf.1
        try dsimp only at hf
        exact x_zret C hret hzr5 hw ⟨hf, hzr5⟩ dX11_isValue_63
      · replace hf := hf.2 c3
        refine lv_iload_n hx hb dX11_isValue_49 rfl (lv_at hl 1 rfl) ?_
        refine x_runi hw (x_S (n := 1) (rest := []) C hw (eX11_small hf) q1015 q1016 q53 q1017 rfl rfl (by decide +kernel) ⟨Nat.le_of_ble_eq_true rfl, Nat.le_of_ble_eq_true rfl⟩ rfl hl.1 rfl (Nat.le_of_ble_eq_true rfl) dX11_isValue_50) (fun r7 σ6 H locs hf hw => ?_)
        try dsimp only at hf
        refine x_runi hw (x_S (n := 1) (rest := []) C hw (eX11_isLetter hf) q1018 q1019 q53 q1020 rfl rfl (by decide +kernel) ⟨Nat.le_of_ble_eq_true rfl, Nat.le_of_ble_eq_true rfl⟩ rfl hl.1 rfl (Nat.le_of_ble_eq_true rfl) dX11_isValue_53) (fun r9 σ8 H locs hf hw => ?_)
        have hzr9 := hf.2
        replace hf := hf.1
        try dsimp only at hf
        refine lv_goto (tgt := 63) hx hb dX11_isValue_56 (by decide) ?_
        exact x_zret C hret hzr9 hw ⟨hf, hzr9⟩ dX11_isValue_63
    · replace hf := hf.2 c2
      refine lv_iload_n hx hb dX11_isValue_34 rfl (lv_at hl 1 rfl) ?_
      refine lv_iconst (v := 1) hx hb dX11_isValue_35 (by decide) ?_
      refine lv_bipush (v := 12) hx hb dX11_isValue_36 (by decide) ?_
      refine x_runi hw (x_S (n := 3) (rest := []) C hw (eX11_in hf) q984 q985 q53 q986 rfl rfl (by decide +kernel) ⟨Nat.le_of_ble_eq_true rfl, Nat.le_of_ble_eq_true rfl⟩ rfl hl.1 rfl (Nat.le_of_ble_eq_true rfl) dX11_isValue_38) (fun r11 σ10 H locs hf hw => ?_)
      have hzr11 := hf.2
      replace hf := hf.1
      try dsimp only at hf
      refine lv_goto (tgt := 63) hx hb dX11_isValue_41 (by decide) ?_
      exact x_zret C hret hzr11 hw ⟨hf, hzr11⟩ dX11_isValue_63
  · replace hf := hf.2 c1
    refine lv_iload_n hx hb dX11_isValue_4 rfl (lv_at hl 1 rfl) ?_
    refine x_runi hw (x_S (n := 1) (rest := []) C hw (eX11_small hf) q1015 q1016 q53 q1017 rfl rfl (by decide +kernel) ⟨Nat.le_of_ble_eq_true rfl, Nat.le_of_ble_eq_true rfl⟩ rfl hl.1 rfl (Nat.le_of_ble_eq_true rfl) dX11_isValue_5) (fun r13 σ12 H locs hf hw => ?_)
    try dsimp only at hf
    refine x_runi hw (x_S (n := 1) (rest := []) C hw (eX11_isLetter hf) q1018 q1019 q53 q1020 rfl rfl (by decide +kernel) ⟨Nat.le_of_ble_eq_true rfl, Nat.le_of_ble_eq_true rfl⟩ rfl hl.1 rfl (Nat.le_of_ble_eq_true rfl) dX11_isValue_8) (fun r15 σ14 H locs hf hw => ?_)
    have hzr15 := hf.2
    replace hf := hf.1
    try dsimp only at hf
    refine lv_if_ne (tgt := 21) hx hb dX11_isValue_11 (by decide) (fun c16 => ?_) (fun c16 => ?_)
    · replace hf := hf.1 c16
      exact eX11_isValue_b21 C hret σ14 _ _ _ hf hw (lv_sub hl [] rfl)
    · replace hf := hf.2 c16
      refine lv_iload_n hx hb dX11_isValue_14 rfl (lv_at hl 1 rfl) ?_
      refine x_runi hw (x_S (n := 1) (rest := []) C hw (eX11_isMark hf) q1021 q1022 q53 q1023 rfl rfl (by decide +kernel) ⟨Nat.le_of_ble_eq_true rfl, Nat.le_of_ble_eq_true rfl⟩ rfl hl.1 rfl (Nat.le_of_ble_eq_true rfl) dX11_isValue_15) (fun r18 σ17 H locs hf hw => ?_)
      have hzr18 := hf.2
      replace hf := hf.1
      try dsimp only at hf
      refine lv_if_eq (tgt := 25) hx hb dX11_isValue_18 (by decide) (fun c19 => ?_) (fun c19 => ?_)
      · replace hf := hf.1 c19
        refine lv_iconst (v := 0) hx hb dX11_isValue_25 (by decide) ?_
        refine lv_goto (tgt := 63) hx hb dX11_isValue_26 (by decide) ?_
        exact x_zret C hret (by decide) hw ⟨hf, by decide⟩ dX11_isValue_63
      · replace hf := hf.2 c19
        exact eX11_isValue_b21 C hret σ17 _ _ _ hf hw (lv_sub hl [] rfl)
-- X11_feature
abbrev rmX11_feature : Room := { frames := 4, cells := 0, slots := 0, locals := 91 }
def fX11_feature_b182 (N : Nat) (a1 : Int32) (a2 : Int32) (Q : Int32 → St → Prop) (σ : St) (t0 : Int32) (t1 : Int32) (t2 : Nat) : Prop := (vp_in t1 12 ∧ ∀ σ15 : St, σ15 = setA σ 80 t2 (t1).toNatClampNeg t0 → ∀ σ16 : St, σ16 = setF σ15 11 0 18 ((sF σ15 11 0 18) + (1 : Int32)) → Q ((sF σ16 11 0 18) - (1 : Int32)) σ16)
def fX11_feature_b151 (N : Nat) (a1 : Int32) (a2 : Int32) (Q : Int32 → St → Prop) (σ : St) : Prop := (vp_in (sF σ 11 0 18) 12 ∧ ∀ σ10 : St, σ10 = setA σ 79 0 ((sF σ 11 0 18)).toNatClampNeg a1 → ((¬ a1 = (1 : Int32) → fX11_small N σ10 a2 (fun (r14 : Int32) (σ13 : St) => fX11_feature_b182 N a1 a2 Q σ13 r14 (sF σ10 11 0 18) 0)) ∧ (a1 = (1 : Int32) → fX11_feature_b182 N a1 a2 Q σ10 a2 (sF σ10 11 0 18) 0)))
def fX11_feature_l93 (N : Nat) (a1 : Int32) (a2 : Int32) (Q : Int32 → St → Prop) (Kx151 : St → Prop) : Nat → St → Int32 → Prop
  | 0, _, _ => False
  | n + 1, σ, v3 => (((12 : Int32) ≤ v3 → Kx151 σ) ∧ (¬ (12 : Int32) ≤ v3 → (vp_in (sF σ 11 0 18) 12 ∧ (((sA σ 81 0 ((sF σ 11 0 18)).toNatClampNeg) ≤ v3 → Kx151 σ) ∧ (¬ (sA σ 81 0 ((sF σ 11 0 18)).toNatClampNeg) ≤ v3 → (vp_in (1400 : Int32) 1500 ∧ (vp_in (((2800 : Int32) + (sA σ 76 0 ((1400 : Int32)).toNatClampNeg)) + v3) 3000 ∧ (vp_in (((12 : Int32) * (sF σ 11 0 18)) + v3) 144 ∧ ∀ σ31 : St, σ31 = setA σ 82 0 ((((12 : Int32) * (sF σ 11 0 18)) + v3)).toNatClampNeg (sA σ 72 0 ((((2800 : Int32) + (sA σ 76 0 ((1400 : Int32)).toNatClampNeg)) + v3)).toNatClampNeg) → fX11_feature_l93 N a1 a2 Q Kx151 n σ31 (v3 + (1 : Int32))))))))))
set_option maxHeartbeats 4000000 in
set_option maxRecDepth 100000 in
theorem eX11_feature_b182 {p : Program} {l : Launch} {e : Env} {s : State} {m : MethodId} {args : Array Value} {below : List Frame} {meth : Method} {c : Code} {E : EC} {lay : Nat → Nat → Nat} {L : List (Nat × Nat)} {A : Nat → Prop} (C : Cx p s m args c meth yX11_feature.cls cX11_feature 4 E A) (hret : meth.sig.returnType = some .int) {N : Nat} {a1 : Int32} {a2 : Int32} {Q : Int32 → St → Prop} (hm0 : (11, 0) ∈ L) (σ : St) (t0 : Int32) (t1 : Int32) (t2 : Nat) (H : Heap) (locs : List Loc) (ls : Array Slot) (hf : fX11_feature_b182 N a1 a2 Q σ t0 t1 t2) (hw : Wo E lay L A s σ H locs) (hl : lv_has ls 4 [(0, .ref (lay 11 0))]) (ht2 : (80, t2) ∈ L) : W p l e rmX11_feature s m args below meth c H locs 0 0 (MQ below (va_Qi Q (Bd E lay L A) A) args s 0 0 A) (F0 m 182 ls [.int t0, .int t1, .ref (lay 80 t2)]) := by
  have hx := C.1
  have hb := C.2.1
  unfold fX11_feature_b182 at hf
  refine x_iast C hw ht2 (by decide) rfl hf.1 dX11_feature_182 (fun σ15 H locs eσ15 hw => ?_)
  replace hf := hf.2 σ15 eσ15
  refine lv_aload_n hx hb dX11_feature_183 rfl (lv_at hl 0 rfl) ?_
  refine lv_dup hx hb dX11_feature_184 rfl ?_
  refine x_get (v := .int (sF σ15 11 0 18)) (j := 18) C hw hm0 rfl (by decide) (by decide) rfl q898 dX11_feature_185 ?_
  refine lv_iconst (v := 1) hx hb dX11_feature_188 (by decide) ?_
  refine lv_iadd hx hb dX11_feature_189 ?_
  refine x_putI (j := 18) (ty := .int) C hw hm0 rfl (by decide) (by decide) rfl rfl (by decide +kernel) rfl rfl q898 dX11_feature_190 (fun σ16 H locs eσ16 hw => ?_)
  replace hf := hf σ16 eσ16
  refine lv_aload_n hx hb dX11_feature_193 rfl (lv_at hl 0 rfl) ?_
  refine x_get (v := .int (sF σ16 11 0 18)) (j := 18) C hw hm0 rfl (by decide) (by decide) rfl q898 dX11_feature_194 ?_
  refine lv_iconst (v := 1) hx hb dX11_feature_197 (by decide) ?_
  refine lv_isub hx hb dX11_feature_198 ?_
  exact x_iret C hret hw hf dX11_feature_199
set_option maxHeartbeats 4000000 in
set_option maxRecDepth 100000 in
theorem eX11_feature_b151 {p : Program} {l : Launch} {e : Env} {s : State} {m : MethodId} {args : Array Value} {below : List Frame} {meth : Method} {c : Code} {E : EC} {lay : Nat → Nat → Nat} {L : List (Nat × Nat)} {A : Nat → Prop} (C : Cx p s m args c meth yX11_feature.cls cX11_feature 4 E A) (hret : meth.sig.returnType = some .int) {N : Nat} {a1 : Int32} {a2 : Int32} {Q : Int32 → St → Prop} (hm0 : (11, 0) ∈ L) (σ : St) (H : Heap) (locs : List Loc) (ls : Array Slot) (hf : fX11_feature_b151 N a1 a2 Q σ) (hw : Wo E lay L A s σ H locs) (hl : lv_has ls 4 [(0, .ref (lay 11 0)), (1, .int a1), (2, .int a2)]) : W p l e rmX11_feature s m args below meth c H locs 0 0 (MQ below (va_Qi Q (Bd E lay L A) A) args s 0 0 A) (F0 m 151 ls []) := by
  have hx := C.1
  have hb := C.2.1
  unfold fX11_feature_b151 at hf
  refine lv_aload_n hx hb dX11_feature_151 rfl (lv_at hl 0 rfl) ?_
  have hm_9 : (79, 0) ∈ L := hw.2.2.2.1 11 0 hm0 19 (by decide) (by decide) rfl
  refine x_get (v := .ref (lay 79 0)) (j := 19) C hw hm0 rfl (by decide) (by decide) rfl q899 dX11_feature_152 ?_
  refine lv_aload_n hx hb dX11_feature_155 rfl (lv_at hl 0 rfl) ?_
  refine x_get (v := .int (sF σ 11 0 18)) (j := 18) C hw hm0 rfl (by decide) (by decide) rfl q898 dX11_feature_156 ?_
  refine lv_iload_n hx hb dX11_feature_159 rfl (lv_at hl 1 rfl) ?_
  refine x_iast C hw hm_9 (by decide) rfl hf.1 dX11_feature_160 (fun σ10 H locs eσ10 hw => ?_)
  replace hf := hf.2 σ10 eσ10
  refine lv_aload_n hx hb dX11_feature_161 rfl (lv_at hl 0 rfl) ?_
  have hm_11 : (80, 0) ∈ L := hw.2.2.2.1 11 0 hm0 20 (by decide) (by decide) rfl
  refine x_get (v := .ref (lay 80 0)) (j := 20) C hw hm0 rfl (by decide) (by decide) rfl q900 dX11_feature_162 ?_
  refine lv_aload_n hx hb dX11_feature_165 rfl (lv_at hl 0 rfl) ?_
  refine x_get (v := .int (sF σ10 11 0 18)) (j := 18) C hw hm0 rfl (by decide) (by decide) rfl q898 dX11_feature_166 ?_
  refine lv_iload_n hx hb dX11_feature_169 rfl (lv_at hl 1 rfl) ?_
  refine lv_iconst (v := 1) hx hb dX11_feature_170 (by decide) ?_
  refine lv_icmp_ne (tgt := 178) hx hb dX11_feature_171 (by decide) (fun c12 => ?_) (fun c12 => ?_)
  · replace hf := hf.1 c12
    refine lv_iload_n hx hb dX11_feature_178 rfl (lv_at hl 2 rfl) ?_
    refine x_runi hw (x_S (n := 1) (rest := [.int (sF σ10 11 0 18), .ref (lay 80 0)]) C hw (eX11_small hf) q1015 q1016 q53 q1017 rfl rfl (by decide +kernel) ⟨Nat.le_of_ble_eq_true rfl, Nat.le_of_ble_eq_true rfl⟩ rfl hl.1 rfl (Nat.le_of_ble_eq_true rfl) dX11_feature_179) (fun r14 σ13 H locs hf hw => ?_)
    try dsimp only at hf
    exact eX11_feature_b182 C hret hm0 σ13 r14 (sF σ10 11 0 18) 0 _ _ _ hf hw (lv_sub hl [0] rfl) hm_11
  · replace hf := hf.2 c12
    refine lv_iload_n hx hb dX11_feature_174 rfl (lv_at hl 2 rfl) ?_
    refine lv_goto (tgt := 182) hx hb dX11_feature_175 (by decide) ?_
    exact eX11_feature_b182 C hret hm0 σ10 a2 (sF σ10 11 0 18) 0 _ _ _ hf hw (lv_sub hl [0] rfl) hm_11
set_option maxHeartbeats 4000000 in
set_option maxRecDepth 100000 in
theorem eX11_feature_l93 {p : Program} {l : Launch} {e : Env} {s : State} {m : MethodId} {args : Array Value} {below : List Frame} {meth : Method} {c : Code} {E : EC} {lay : Nat → Nat → Nat} {L : List (Nat × Nat)} {A : Nat → Prop} (C : Cx p s m args c meth yX11_feature.cls cX11_feature 4 E A) (hret : meth.sig.returnType = some .int) {N : Nat} {a1 : Int32} {a2 : Int32} {Q : Int32 → St → Prop} {Kx151 : St → Prop} (hm0 : (11, 0) ∈ L) (hK151 : ∀ (σ : St) (H : Heap) (locs : List Loc) (ls : Array Slot), Kx151 σ → Wo E lay L A s σ H locs → lv_has ls 4 [(0, .ref (lay 11 0)), (1, .int a1), (2, .int a2)] → W p l e rmX11_feature s m args below meth c H locs 0 0 (MQ below (va_Qi Q (Bd E lay L A) A) args s 0 0 A) (F0 m 151 ls [])) : ∀ (n : Nat) (σ : St) (v3 : Int32) (H : Heap) (locs : List Loc) (ls : Array Slot), fX11_feature_l93 N a1 a2 Q Kx151 n σ v3 → Wo E lay L A s σ H locs → lv_has ls 4 [(0, .ref (lay 11 0)), (1, .int a1), (2, .int a2), (3, .int v3)] → W p l e rmX11_feature s m args below meth c H locs 0 0 (MQ below (va_Qi Q (Bd E lay L A) A) args s 0 0 A) (F0 m 93 ls []) := by
  have hx := C.1
  have hb := C.2.1
  intro n
  induction n with
  | zero => intro σ v3 H locs ls hf; exact hf.elim
  | succ n ih =>
    intro σ v3 H locs ls hf hw hl
    rw [fX11_feature_l93] at hf
    refine lv_iload_n hx hb dX11_feature_93 rfl (lv_at hl 3 rfl) ?_
    refine lv_bipush (v := 12) hx hb dX11_feature_94 (by decide) ?_
    refine lv_icmp_ge (tgt := 151) hx hb dX11_feature_96 (by decide) (fun c25 => ?_) (fun c25 => ?_)
    · replace hf := hf.1 c25
      exact hK151 σ _ _ _ hf hw (lv_sub hl [0, 1, 2] rfl)
    · replace hf := hf.2 c25
      refine lv_iload_n hx hb dX11_feature_99 rfl (lv_at hl 3 rfl) ?_
      refine lv_aload_n hx hb dX11_feature_100 rfl (lv_at hl 0 rfl) ?_
      have hm_26 : (81, 0) ∈ L := hw.2.2.2.1 11 0 hm0 21 (by decide) (by decide) rfl
      refine x_get (v := .ref (lay 81 0)) (j := 21) C hw hm0 rfl (by decide) (by decide) rfl q901 dX11_feature_101 ?_
      refine lv_aload_n hx hb dX11_feature_104 rfl (lv_at hl 0 rfl) ?_
      refine x_get (v := .int (sF σ 11 0 18)) (j := 18) C hw hm0 rfl (by decide) (by decide) rfl q898 dX11_feature_105 ?_
      refine x_iald C hw hm_26 (by decide) rfl hf.1 dX11_feature_108 ?_
      replace hf := hf.2
      refine lv_icmp_ge (tgt := 151) hx hb dX11_feature_109 (by decide) (fun c27 => ?_) (fun c27 => ?_)
      · replace hf := hf.1 c27
        exact hK151 σ _ _ _ hf hw (lv_sub hl [0, 1, 2] rfl)
      · replace hf := hf.2 c27
        refine lv_aload_n hx hb dX11_feature_112 rfl (lv_at hl 0 rfl) ?_
        have hm_28 : (82, 0) ∈ L := hw.2.2.2.1 11 0 hm0 22 (by decide) (by decide) rfl
        refine x_get (v := .ref (lay 82 0)) (j := 22) C hw hm0 rfl (by decide) (by decide) rfl q902 dX11_feature_113 ?_
        refine lv_bipush (v := 12) hx hb dX11_feature_116 (by decide) ?_
        refine lv_aload_n hx hb dX11_feature_118 rfl (lv_at hl 0 rfl) ?_
        refine x_get (v := .int (sF σ 11 0 18)) (j := 18) C hw hm0 rfl (by decide) (by decide) rfl q898 dX11_feature_119 ?_
        refine lv_imul hx hb dX11_feature_122 ?_
        refine lv_iload_n hx hb dX11_feature_123 rfl (lv_at hl 3 rfl) ?_
        refine lv_iadd hx hb dX11_feature_124 ?_
        refine lv_aload_n hx hb dX11_feature_125 rfl (lv_at hl 0 rfl) ?_
        have hm_29 : (72, 0) ∈ L := hw.2.2.2.1 11 0 hm0 12 (by decide) (by decide) rfl
        refine x_get (v := .ref (lay 72 0)) (j := 12) C hw hm0 rfl (by decide) (by decide) rfl q892 dX11_feature_126 ?_
        refine lv_sipush (v := 2800) hx hb dX11_feature_129 (by decide) ?_
        refine lv_aload_n hx hb dX11_feature_132 rfl (lv_at hl 0 rfl) ?_
        have hm_30 : (76, 0) ∈ L := hw.2.2.2.1 11 0 hm0 16 (by decide) (by decide) rfl
        refine x_get (v := .ref (lay 76 0)) (j := 16) C hw hm0 rfl (by decide) (by decide) rfl q896 dX11_feature_133 ?_
        refine lv_sipush (v := 1400) hx hb dX11_feature_136 (by decide) ?_
        refine x_iald C hw hm_30 (by decide) rfl hf.1 dX11_feature_139 ?_
        replace hf := hf.2
        refine lv_iadd hx hb dX11_feature_140 ?_
        refine lv_iload_n hx hb dX11_feature_141 rfl (lv_at hl 3 rfl) ?_
        refine lv_iadd hx hb dX11_feature_142 ?_
        refine x_iald C hw hm_29 (by decide) rfl hf.1 dX11_feature_143 ?_
        replace hf := hf.2
        refine x_iast C hw hm_28 (by decide) rfl hf.1 dX11_feature_144 (fun σ31 H locs eσ31 hw => ?_)
        replace hf := hf.2 σ31 eσ31
        refine lv_iinc (v := (v3 + (1 : Int32))) (lv' := [(3, .int (v3 + (1 : Int32))), (0, .ref (lay 11 0)), (1, .int a1), (2, .int a2)]) hx hb dX11_feature_145 hl (k := 3) rfl (by rfl) (by decide) rfl (fun ls hl => ?_)
        refine lv_goto (tgt := 93) hx hb dX11_feature_148 (by decide) ?_
        exact ih σ31 (v3 + (1 : Int32)) _ _ _ hf hw (lv_sub hl [1, 2, 3, 0] rfl)
def fX11_feature (N : Nat) (σ : St) (a1 : Int32) (a2 : Int32) (Q : Int32 → St → Prop) : Prop := fX11_in N σ a1 (0 : Int32) (3 : Int32) (fun (r2 : Int32) (σ1 : St) => ((r2 = 0 → Q (-1 : Int32) σ1) ∧ (¬ r2 = 0 → fX11_isValue N σ1 a1 a2 (fun (r5 : Int32) (σ4 : St) => ((¬ r5 = 0 → ((¬ (sF σ4 11 0 18) = (12 : Int32) → ((¬ a1 = (3 : Int32) → fX11_feature_b151 N a1 a2 Q σ4) ∧ (a1 = (3 : Int32) → (vp_in a2 4 ∧ ((0 ≤ (sA σ4 63 0 (a2).toNatClampNeg) → fX11_read N σ4 (14 : Int32) a2 (fun (σ19 : St) => (vp_in (14 : Int32) 15 ∧ ((¬ (sA σ19 75 0 ((14 : Int32)).toNatClampNeg) = 0 → (vp_in (1400 : Int32) 1500 ∧ (vp_in (sF σ19 11 0 18) 12 ∧ ∀ σ24 : St, σ24 = setA σ19 81 0 ((sF σ19 11 0 18)).toNatClampNeg (sA σ19 77 0 ((1400 : Int32)).toNatClampNeg) → fX11_feature_l93 N a1 a2 Q (fun (σ32 : St) => fX11_feature_b151 N a1 a2 Q σ32) N σ24 (0 : Int32)))) ∧ ((sA σ19 75 0 ((14 : Int32)).toNatClampNeg) = 0 → fX11_meets N σ19 (5 : Int32) (fun (r34 : Int32) (σ33 : St) => Q r34 σ33)))))) ∧ (¬ 0 ≤ (sA σ4 63 0 (a2).toNatClampNeg) → fX11_meets N σ4 (1 : Int32) (fun (r36 : Int32) (σ35 : St) => Q r36 σ35))))))) ∧ ((sF σ4 11 0 18) = (12 : Int32) → Q (-2 : Int32) σ4))) ∧ (r5 = 0 → Q (-1 : Int32) σ4))))))
set_option maxHeartbeats 4000000 in
set_option maxRecDepth 100000 in
theorem eX11_feature {l : Launch} {E : EC} {lay : Nat → Nat → Nat} {L : List (Nat × Nat)} {A : Nat → Prop} {N : Nat} {σ : St} {a1 : Int32} {a2 : Int32} {Q : Int32 → St → Prop} (hf : fX11_feature N σ a1 a2 Q) (hm0 : (11, 0) ∈ L) : Met l yX11_feature (.code yX11_feature cX11_feature 4 (some .int) :: big) rmX11_feature (va_Pc [.ref (lay 11 0), .int a1, .int a2] (Bp E lay L A σ)) (va_Qi Q (Bd E lay L A) A) 0 0 A := by
  refine x_met (by decide +kernel) (Nat.le_of_ble_eq_true rfl) ?_
  intro p e s m args below meth c ls C hret hw hl
  have hx := C.1
  have hb := C.2.1
  have hl : lv_has ls 4 [(0, .ref (lay 11 0)), (1, .int a1), (2, .int a2)] := hl
  unfold fX11_feature at hf
  refine lv_iload_n hx hb dX11_feature_0 rfl (lv_at hl 1 rfl) ?_
  refine lv_iconst (v := 0) hx hb dX11_feature_1 (by decide) ?_
  refine lv_iconst (v := 3) hx hb dX11_feature_2 (by decide) ?_
  refine x_runi hw (x_S (n := 3) (rest := []) C hw (eX11_in hf) q984 q985 q53 q986 rfl rfl (by decide +kernel) ⟨Nat.le_of_ble_eq_true rfl, Nat.le_of_ble_eq_true rfl⟩ rfl hl.1 rfl (Nat.le_of_ble_eq_true rfl) dX11_feature_3) (fun r2 σ1 H locs hf hw => ?_)
  have hzr2 := hf.2
  replace hf := hf.1
  try dsimp only at hf
  refine lv_if_eq (tgt := 17) hx hb dX11_feature_6 (by decide) (fun c3 => ?_) (fun c3 => ?_)
  · replace hf := hf.1 c3
    refine lv_iconst (v := (-1)) hx hb dX11_feature_17 (by decide) ?_
    exact x_iret C hret hw hf dX11_feature_18
  · replace hf := hf.2 c3
    refine lv_iload_n hx hb dX11_feature_9 rfl (lv_at hl 1 rfl) ?_
    refine lv_iload_n hx hb dX11_feature_10 rfl (lv_at hl 2 rfl) ?_
    refine x_runi hw (x_S (n := 2) (rest := []) C hw (eX11_isValue hf) q1048 q1049 q53 q1050 rfl rfl (by decide +kernel) ⟨Nat.le_of_ble_eq_true rfl, Nat.le_of_ble_eq_true rfl⟩ rfl hl.1 rfl (Nat.le_of_ble_eq_true rfl) dX11_feature_11) (fun r5 σ4 H locs hf hw => ?_)
    have hzr5 := hf.2
    replace hf := hf.1
    try dsimp only at hf
    refine lv_if_ne (tgt := 19) hx hb dX11_feature_14 (by decide) (fun c6 => ?_) (fun c6 => ?_)
    · replace hf := hf.1 c6
      refine lv_aload_n hx hb dX11_feature_19 rfl (lv_at hl 0 rfl) ?_
      refine x_get (v := .int (sF σ4 11 0 18)) (j := 18) C hw hm0 rfl (by decide) (by decide) rfl q898 dX11_feature_20 ?_
      refine lv_bipush (v := 12) hx hb dX11_feature_23 (by decide) ?_
      refine lv_icmp_ne (tgt := 31) hx hb dX11_feature_25 (by decide) (fun c7 => ?_) (fun c7 => ?_)
      · replace hf := hf.1 c7
        refine lv_iload_n hx hb dX11_feature_31 rfl (lv_at hl 1 rfl) ?_
        refine lv_iconst (v := 3) hx hb dX11_feature_32 (by decide) ?_
        refine lv_icmp_ne (tgt := 151) hx hb dX11_feature_33 (by decide) (fun c8 => ?_) (fun c8 => ?_)
        · replace hf := hf.1 c8
          exact eX11_feature_b151 C hret hm0 σ4 _ _ _ hf hw (lv_sub hl [0, 1, 2] rfl)
        · replace hf := hf.2 c8
          refine lv_aload_n hx hb dX11_feature_36 rfl (lv_at hl 0 rfl) ?_
          have hm_17 : (63, 0) ∈ L := hw.2.2.2.1 11 0 hm0 3 (by decide) (by decide) rfl
          refine x_get (v := .ref (lay 63 0)) (j := 3) C hw hm0 rfl (by decide) (by decide) rfl q883 dX11_feature_37 ?_
          refine lv_iload_n hx hb dX11_feature_40 rfl (lv_at hl 2 rfl) ?_
          refine x_iald C hw hm_17 (by decide) rfl hf.1 dX11_feature_41 ?_
          replace hf := hf.2
          refine lv_if_ge (tgt := 51) hx hb dX11_feature_42 (by decide) (fun c18 => ?_) (fun c18 => ?_)
          · replace hf := hf.1 c18
            refine lv_aload_n hx hb dX11_feature_51 rfl (lv_at hl 0 rfl) ?_
            refine lv_bipush (v := 14) hx hb dX11_feature_52 (by decide) ?_
            refine lv_iload_n hx hb dX11_feature_54 rfl (lv_at hl 2 rfl) ?_
            refine x_runv hw (x_V (n := 2) (rest := []) C hw hm0 (by decide) (eX11_read hf hm0) q1011 q1013 q24 q53 q1014 rfl rfl (by decide +kernel) ⟨Nat.le_of_ble_eq_true rfl, Nat.le_of_ble_eq_true rfl⟩ rfl hl.1 rfl (Nat.le_of_ble_eq_true rfl) dX11_feature_55) (fun σ19 H locs hf hw => ?_)
            try dsimp only at hf
            refine lv_aload_n hx hb dX11_feature_58 rfl (lv_at hl 0 rfl) ?_
            have hm_20 : (75, 0) ∈ L := hw.2.2.2.1 11 0 hm0 15 (by decide) (by decide) rfl
            refine x_get (v := .ref (lay 75 0)) (j := 15) C hw hm0 rfl (by decide) (by decide) rfl q895 dX11_feature_59 ?_
            refine lv_bipush (v := 14) hx hb dX11_feature_62 (by decide) ?_
            refine x_iald C hw hm_20 (by decide) rfl hf.1 dX11_feature_64 ?_
            replace hf := hf.2
            refine lv_if_ne (tgt := 74) hx hb dX11_feature_65 (by decide) (fun c21 => ?_) (fun c21 => ?_)
            · replace hf := hf.1 c21
              refine lv_aload_n hx hb dX11_feature_74 rfl (lv_at hl 0 rfl) ?_
              have hm_22 : (81, 0) ∈ L := hw.2.2.2.1 11 0 hm0 21 (by decide) (by decide) rfl
              refine x_get (v := .ref (lay 81 0)) (j := 21) C hw hm0 rfl (by decide) (by decide) rfl q901 dX11_feature_75 ?_
              refine lv_aload_n hx hb dX11_feature_78 rfl (lv_at hl 0 rfl) ?_
              refine x_get (v := .int (sF σ19 11 0 18)) (j := 18) C hw hm0 rfl (by decide) (by decide) rfl q898 dX11_feature_79 ?_
              refine lv_aload_n hx hb dX11_feature_82 rfl (lv_at hl 0 rfl) ?_
              have hm_23 : (77, 0) ∈ L := hw.2.2.2.1 11 0 hm0 17 (by decide) (by decide) rfl
              refine x_get (v := .ref (lay 77 0)) (j := 17) C hw hm0 rfl (by decide) (by decide) rfl q897 dX11_feature_83 ?_
              refine lv_sipush (v := 1400) hx hb dX11_feature_86 (by decide) ?_
              refine x_iald C hw hm_23 (by decide) rfl hf.1 dX11_feature_89 ?_
              replace hf := hf.2
              refine x_iast C hw hm_22 (by decide) rfl hf.1 dX11_feature_90 (fun σ24 H locs eσ24 hw => ?_)
              replace hf := hf.2 σ24 eσ24
              refine lv_iconst (v := 0) hx hb dX11_feature_91 (by decide) ?_
              refine lv_istore_n (lv' := [(3, .int (0 : Int32)), (0, .ref (lay 11 0)), (1, .int a1), (2, .int a2)]) hx hb dX11_feature_92 rfl hl (by decide) rfl (fun ls hl => ?_)
              refine eX11_feature_l93 C hret hm0 ?_ N σ24 (0 : Int32) _ _ _ hf hw (lv_sub hl [1, 2, 3, 0] rfl)
              · intro σ32 H locs ls hf hw hl
                exact eX11_feature_b151 C hret hm0 σ32 _ _ _ hf hw (lv_sub hl [0, 1, 2] rfl)
            · replace hf := hf.2 c21
              refine lv_aload_n hx hb dX11_feature_68 rfl (lv_at hl 0 rfl) ?_
              refine lv_iconst (v := 5) hx hb dX11_feature_69 (by decide) ?_
              refine x_runi hw (x_V (n := 1) (rest := []) C hw hm0 (by decide) (eX11_meets hf hm0) q987 q989 q22 q53 q990 rfl rfl (by decide +kernel) ⟨Nat.le_of_ble_eq_true rfl, Nat.le_of_ble_eq_true rfl⟩ rfl hl.1 rfl (Nat.le_of_ble_eq_true rfl) dX11_feature_70) (fun r34 σ33 H locs hf hw => ?_)
              try dsimp only at hf
              exact x_iret C hret hw hf dX11_feature_73
          · replace hf := hf.2 c18
            refine lv_aload_n hx hb dX11_feature_45 rfl (lv_at hl 0 rfl) ?_
            refine lv_iconst (v := 1) hx hb dX11_feature_46 (by decide) ?_
            refine x_runi hw (x_V (n := 1) (rest := []) C hw hm0 (by decide) (eX11_meets hf hm0) q987 q989 q22 q53 q990 rfl rfl (by decide +kernel) ⟨Nat.le_of_ble_eq_true rfl, Nat.le_of_ble_eq_true rfl⟩ rfl hl.1 rfl (Nat.le_of_ble_eq_true rfl) dX11_feature_47) (fun r36 σ35 H locs hf hw => ?_)
            try dsimp only at hf
            exact x_iret C hret hw hf dX11_feature_50
      · replace hf := hf.2 c7
        refine lv_bipush (v := (-2)) hx hb dX11_feature_28 (by decide) ?_
        exact x_iret C hret hw hf dX11_feature_30
    · replace hf := hf.2 c6
      refine lv_iconst (v := (-1)) hx hb dX11_feature_17 (by decide) ?_
      exact x_iret C hret hw hf dX11_feature_18
-- X11_isLike
abbrev rmX11_isLike : Room := { frames := 0, cells := 0, slots := 0, locals := 0 }
def fX11_isLike_b184_135 (N : Nat) (a1 : Int32) (a2 : Int32) (a3 : Int32) (Q : Int32 → St → Prop) (Kh : St → Int32 → Int32 → Int32 → Int32 → Prop) (Kx192 : St → Int32 → Prop) (σ : St) (v4 : Int32) (v5 : Int32) (v7 : Int32) (t0 : Int32) : Prop := Kh σ v4 v5 t0 (v7 + (1 : Int32))
def fX11_isLike_l135 (N : Nat) (a1 : Int32) (a2 : Int32) (a3 : Int32) (Q : Int32 → St → Prop) (Kx192 : St → Int32 → Prop) : Nat → St → Int32 → Int32 → Int32 → Int32 → Prop
  | 0, _, _, _, _, _ => False
  | n + 1, σ, v4, v5, v6, v7 => (((12 : Int32) ≤ v7 → Kx192 σ v6) ∧ (¬ (12 : Int32) ≤ v7 → ((v4 ≤ v7 → Kx192 σ v6) ∧ (¬ v4 ≤ v7 → ((v6 = 0 → Kx192 σ v6) ∧ (¬ v6 = 0 → (vp_in (v5 + v7) 3000 ∧ (vp_in (((12 : Int32) * a1) + v7) 144 ∧ ((¬ (sA σ 72 0 ((v5 + v7)).toNatClampNeg) = (sA σ 82 0 ((((12 : Int32) * a1) + v7)).toNatClampNeg) → fX11_isLike_b184_135 N a1 a2 a3 Q (fun (σ : St) (w4 : Int32) (w5 : Int32) (w6 : Int32) (w7 : Int32) => fX11_isLike_l135 N a1 a2 a3 Q Kx192 n σ w4 w5 w6 w7) Kx192 σ v4 v5 v7 (0 : Int32)) ∧ ((sA σ 72 0 ((v5 + v7)).toNatClampNeg) = (sA σ 82 0 ((((12 : Int32) * a1) + v7)).toNatClampNeg) → fX11_isLike_b184_135 N a1 a2 a3 Q (fun (σ : St) (w4 : Int32) (w5 : Int32) (w6 : Int32) (w7 : Int32) => fX11_isLike_l135 N a1 a2 a3 Q Kx192 n σ w4 w5 w6 w7) Kx192 σ v4 v5 v7 (1 : Int32)))))))))))
def fX11_isLike_b130 (N : Nat) (a1 : Int32) (a2 : Int32) (a3 : Int32) (Q : Int32 → St → Prop) (σ : St) (v4 : Int32) (v5 : Int32) (t0 : Int32) : Prop := fX11_isLike_l135 N a1 a2 a3 Q (fun (σ16 : St) (u192_6 : Int32) => (narrow .boolean (.int u192_6) = .int u192_6 ∧ Q u192_6 σ16)) N σ v4 v5 t0 (0 : Int32)
def fX11_isLike_b71 (N : Nat) (a1 : Int32) (a2 : Int32) (a3 : Int32) (Q : Int32 → St → Prop) (σ : St) : Prop := Q (1 : Int32) σ
set_option maxHeartbeats 4000000 in
set_option maxRecDepth 100000 in
theorem eX11_isLike_b184_135 {p : Program} {l : Launch} {e : Env} {s : State} {m : MethodId} {args : Array Value} {below : List Frame} {meth : Method} {c : Code} {E : EC} {lay : Nat → Nat → Nat} {L : List (Nat × Nat)} {A : Nat → Prop} (C : Cx p s m args c meth yX11_isLike.cls cX11_isLike 8 E A) (hret : meth.sig.returnType = some .boolean) {N : Nat} {a1 : Int32} {a2 : Int32} {a3 : Int32} {Q : Int32 → St → Prop} {Kh : St → Int32 → Int32 → Int32 → Int32 → Prop} {Kx192 : St → Int32 → Prop} (hm0 : (11, 0) ∈ L) (hKh : ∀ (σ : St) (w4 : Int32) (w5 : Int32) (w6 : Int32) (w7 : Int32) (H : Heap) (locs : List Loc) (ls : Array Slot), Kh σ w4 w5 w6 w7 → Wo E lay L A s σ H locs → lv_has ls 8 [(0, .ref (lay 11 0)), (1, .int a1), (4, .int w4), (5, .int w5), (6, .int w6), (7, .int w7)] → W p l e rmX11_isLike s m args below meth c H locs 0 0 (MQ below (va_Qi (fun r u => Q r u ∧ narrow .boolean (.int r) = .int r) (Bd E lay L A) A) args s 0 0 A) (F0 m 135 ls [])) (hK192 : ∀ (σ : St) (w6 : Int32) (H : Heap) (locs : List Loc) (ls : Array Slot), Kx192 σ w6 → Wo E lay L A s σ H locs → lv_has ls 8 [(6, .int w6)] → W p l e rmX11_isLike s m args below meth c H locs 0 0 (MQ below (va_Qi (fun r u => Q r u ∧ narrow .boolean (.int r) = .int r) (Bd E lay L A) A) args s 0 0 A) (F0 m 192 ls [])) (σ : St) (v4 : Int32) (v5 : Int32) (v7 : Int32) (t0 : Int32) (H : Heap) (locs : List Loc) (ls : Array Slot) (hf : fX11_isLike_b184_135 N a1 a2 a3 Q Kh Kx192 σ v4 v5 v7 t0) (hw : Wo E lay L A s σ H locs) (hl : lv_has ls 8 [(0, .ref (lay 11 0)), (1, .int a1), (4, .int v4), (5, .int v5), (7, .int v7)]) : W p l e rmX11_isLike s m args below meth c H locs 0 0 (MQ below (va_Qi (fun r u => Q r u ∧ narrow .boolean (.int r) = .int r) (Bd E lay L A) A) args s 0 0 A) (F0 m 184 ls [.int t0]) := by
  have hx := C.1
  have hb := C.2.1
  unfold fX11_isLike_b184_135 at hf
  refine lv_istore (lv' := [(6, .int t0), (0, .ref (lay 11 0)), (1, .int a1), (4, .int v4), (5, .int v5), (7, .int v7)]) hx hb dX11_isLike_184 hl (by decide) rfl (fun ls hl => ?_)
  refine lv_iinc (v := (v7 + (1 : Int32))) (lv' := [(7, .int (v7 + (1 : Int32))), (6, .int t0), (0, .ref (lay 11 0)), (1, .int a1), (4, .int v4), (5, .int v5)]) hx hb dX11_isLike_186 hl (k := 5) rfl (by rfl) (by decide) rfl (fun ls hl => ?_)
  refine lv_goto (tgt := 135) hx hb dX11_isLike_189 (by decide) ?_
  exact hKh σ v4 v5 t0 (v7 + (1 : Int32)) _ _ _ hf hw (lv_sub hl [2, 3, 4, 5, 1, 0] rfl)
set_option maxHeartbeats 4000000 in
set_option maxRecDepth 100000 in
theorem eX11_isLike_l135 {p : Program} {l : Launch} {e : Env} {s : State} {m : MethodId} {args : Array Value} {below : List Frame} {meth : Method} {c : Code} {E : EC} {lay : Nat → Nat → Nat} {L : List (Nat × Nat)} {A : Nat → Prop} (C : Cx p s m args c meth yX11_isLike.cls cX11_isLike 8 E A) (hret : meth.sig.returnType = some .boolean) {N : Nat} {a1 : Int32} {a2 : Int32} {a3 : Int32} {Q : Int32 → St → Prop} {Kx192 : St → Int32 → Prop} (hm0 : (11, 0) ∈ L) (hK192 : ∀ (σ : St) (w6 : Int32) (H : Heap) (locs : List Loc) (ls : Array Slot), Kx192 σ w6 → Wo E lay L A s σ H locs → lv_has ls 8 [(6, .int w6)] → W p l e rmX11_isLike s m args below meth c H locs 0 0 (MQ below (va_Qi (fun r u => Q r u ∧ narrow .boolean (.int r) = .int r) (Bd E lay L A) A) args s 0 0 A) (F0 m 192 ls [])) : ∀ (n : Nat) (σ : St) (v4 : Int32) (v5 : Int32) (v6 : Int32) (v7 : Int32) (H : Heap) (locs : List Loc) (ls : Array Slot), fX11_isLike_l135 N a1 a2 a3 Q Kx192 n σ v4 v5 v6 v7 → Wo E lay L A s σ H locs → lv_has ls 8 [(0, .ref (lay 11 0)), (1, .int a1), (4, .int v4), (5, .int v5), (6, .int v6), (7, .int v7)] → W p l e rmX11_isLike s m args below meth c H locs 0 0 (MQ below (va_Qi (fun r u => Q r u ∧ narrow .boolean (.int r) = .int r) (Bd E lay L A) A) args s 0 0 A) (F0 m 135 ls []) := by
  have hx := C.1
  have hb := C.2.1
  intro n
  induction n with
  | zero => intro σ v4 v5 v6 v7 H locs ls hf; exact hf.elim
  | succ n ih =>
    intro σ v4 v5 v6 v7 H locs ls hf hw hl
    rw [fX11_isLike_l135] at hf
    refine lv_iload hx hb dX11_isLike_135 (lv_at hl 5 rfl) ?_
    refine lv_bipush (v := 12) hx hb dX11_isLike_137 (by decide) ?_
    refine lv_icmp_ge (tgt := 192) hx hb dX11_isLike_139 (by decide) (fun c10 => ?_) (fun c10 => ?_)
    · replace hf := hf.1 c10
      exact hK192 σ v6 _ _ _ hf hw (lv_sub hl [4] rfl)
    · replace hf := hf.2 c10
      refine lv_iload hx hb dX11_isLike_142 (lv_at hl 5 rfl) ?_
      refine lv_iload hx hb dX11_isLike_144 (lv_at hl 2 rfl) ?_
      refine lv_icmp_ge (tgt := 192) hx hb dX11_isLike_146 (by decide) (fun c11 => ?_) (fun c11 => ?_)
      · replace hf := hf.1 c11
        exact hK192 σ v6 _ _ _ hf hw (lv_sub hl [4] rfl)
      · replace hf := hf.2 c11
        refine lv_iload hx hb dX11_isLike_149 (lv_at hl 4 rfl) ?_
        refine lv_if_eq (tgt := 192) hx hb dX11_isLike_151 (by decide) (fun c12 => ?_) (fun c12 => ?_)
        · replace hf := hf.1 c12
          exact hK192 σ v6 _ _ _ hf hw (lv_sub hl [4] rfl)
        · replace hf := hf.2 c12
          refine lv_aload_n hx hb dX11_isLike_154 rfl (lv_at hl 0 rfl) ?_
          have hm_13 : (72, 0) ∈ L := hw.2.2.2.1 11 0 hm0 12 (by decide) (by decide) rfl
          refine x_get (v := .ref (lay 72 0)) (j := 12) C hw hm0 rfl (by decide) (by decide) rfl q892 dX11_isLike_155 ?_
          refine lv_iload hx hb dX11_isLike_158 (lv_at hl 3 rfl) ?_
          refine lv_iload hx hb dX11_isLike_160 (lv_at hl 5 rfl) ?_
          refine lv_iadd hx hb dX11_isLike_162 ?_
          refine x_iald C hw hm_13 (by decide) rfl hf.1 dX11_isLike_163 ?_
          replace hf := hf.2
          refine lv_aload_n hx hb dX11_isLike_164 rfl (lv_at hl 0 rfl) ?_
          have hm_14 : (82, 0) ∈ L := hw.2.2.2.1 11 0 hm0 22 (by decide) (by decide) rfl
          refine x_get (v := .ref (lay 82 0)) (j := 22) C hw hm0 rfl (by decide) (by decide) rfl q902 dX11_isLike_165 ?_
          refine lv_bipush (v := 12) hx hb dX11_isLike_168 (by decide) ?_
          refine lv_iload_n hx hb dX11_isLike_170 rfl (lv_at hl 1 rfl) ?_
          refine lv_imul hx hb dX11_isLike_171 ?_
          refine lv_iload hx hb dX11_isLike_172 (lv_at hl 5 rfl) ?_
          refine lv_iadd hx hb dX11_isLike_174 ?_
          refine x_iald C hw hm_14 (by decide) rfl hf.1 dX11_isLike_175 ?_
          replace hf := hf.2
          refine lv_icmp_ne (tgt := 183) hx hb dX11_isLike_176 (by decide) (fun c15 => ?_) (fun c15 => ?_)
          · replace hf := hf.1 c15
            refine lv_iconst (v := 0) hx hb dX11_isLike_183 (by decide) ?_
            exact eX11_isLike_b184_135 C hret hm0 ih hK192 σ v4 v5 v7 (0 : Int32) _ _ _ hf hw (lv_sub hl [0, 1, 2, 3, 5] rfl)
          · replace hf := hf.2 c15
            refine lv_iconst (v := 1) hx hb dX11_isLike_179 (by decide) ?_
            refine lv_goto (tgt := 184) hx hb dX11_isLike_180 (by decide) ?_
            exact eX11_isLike_b184_135 C hret hm0 ih hK192 σ v4 v5 v7 (1 : Int32) _ _ _ hf hw (lv_sub hl [0, 1, 2, 3, 5] rfl)
set_option maxHeartbeats 4000000 in
set_option maxRecDepth 100000 in
theorem eX11_isLike_b130 {p : Program} {l : Launch} {e : Env} {s : State} {m : MethodId} {args : Array Value} {below : List Frame} {meth : Method} {c : Code} {E : EC} {lay : Nat → Nat → Nat} {L : List (Nat × Nat)} {A : Nat → Prop} (C : Cx p s m args c meth yX11_isLike.cls cX11_isLike 8 E A) (hret : meth.sig.returnType = some .boolean) {N : Nat} {a1 : Int32} {a2 : Int32} {a3 : Int32} {Q : Int32 → St → Prop} (hm0 : (11, 0) ∈ L) (σ : St) (v4 : Int32) (v5 : Int32) (t0 : Int32) (H : Heap) (locs : List Loc) (ls : Array Slot) (hf : fX11_isLike_b130 N a1 a2 a3 Q σ v4 v5 t0) (hw : Wo E lay L A s σ H locs) (hl : lv_has ls 8 [(0, .ref (lay 11 0)), (1, .int a1), (4, .int v4), (5, .int v5)]) : W p l e rmX11_isLike s m args below meth c H locs 0 0 (MQ below (va_Qi (fun r u => Q r u ∧ narrow .boolean (.int r) = .int r) (Bd E lay L A) A) args s 0 0 A) (F0 m 130 ls [.int t0]) := by
  have hx := C.1
  have hb := C.2.1
  unfold fX11_isLike_b130 at hf
  refine lv_istore (lv' := [(6, .int t0), (0, .ref (lay 11 0)), (1, .int a1), (4, .int v4), (5, .int v5)]) hx hb dX11_isLike_130 hl (by decide) rfl (fun ls hl => ?_)
  refine lv_iconst (v := 0) hx hb dX11_isLike_132 (by decide) ?_
  refine lv_istore (lv' := [(7, .int (0 : Int32)), (6, .int t0), (0, .ref (lay 11 0)), (1, .int a1), (4, .int v4), (5, .int v5)]) hx hb dX11_isLike_133 hl (by decide) rfl (fun ls hl => ?_)
  refine eX11_isLike_l135 C hret hm0 ?_ N σ v4 v5 t0 (0 : Int32) _ _ _ hf hw (lv_sub hl [2, 3, 4, 5, 1, 0] rfl)
  · intro σ16 u192_6 H locs ls hf hw hl
    refine lv_iload hx hb dX11_isLike_192 (lv_at hl 0 rfl) ?_
    exact x_zret C hret hf.1 hw ⟨hf.2, hf.1⟩ dX11_isLike_194
set_option maxHeartbeats 4000000 in
set_option maxRecDepth 100000 in
theorem eX11_isLike_b71 {p : Program} {l : Launch} {e : Env} {s : State} {m : MethodId} {args : Array Value} {below : List Frame} {meth : Method} {c : Code} {E : EC} {lay : Nat → Nat → Nat} {L : List (Nat × Nat)} {A : Nat → Prop} (C : Cx p s m args c meth yX11_isLike.cls cX11_isLike 8 E A) (hret : meth.sig.returnType = some .boolean) {N : Nat} {a1 : Int32} {a2 : Int32} {a3 : Int32} {Q : Int32 → St → Prop} (hm0 : (11, 0) ∈ L) (σ : St) (H : Heap) (locs : List Loc) (ls : Array Slot) (hf : fX11_isLike_b71 N a1 a2 a3 Q σ) (hw : Wo E lay L A s σ H locs) (hl : lv_has ls 8 []) : W p l e rmX11_isLike s m args below meth c H locs 0 0 (MQ below (va_Qi (fun r u => Q r u ∧ narrow .boolean (.int r) = .int r) (Bd E lay L A) A) args s 0 0 A) (F0 m 71 ls []) := by
  have hx := C.1
  have hb := C.2.1
  unfold fX11_isLike_b71 at hf
  refine lv_iconst (v := 1) hx hb dX11_isLike_71 (by decide) ?_
  refine lv_goto (tgt := 76) hx hb dX11_isLike_72 (by decide) ?_
  exact x_zret C hret (by decide) hw ⟨hf, by decide⟩ dX11_isLike_76
def fX11_isLike (N : Nat) (σ : St) (a1 : Int32) (a2 : Int32) (a3 : Int32) (Q : Int32 → St → Prop) : Prop := (vp_in (((100 : Int32) * a2) + a3) 1500 ∧ (vp_in (((100 : Int32) * a2) + a3) 1500 ∧ ∀ x3 : Int32, x3 = (((200 : Int32) * a2) + (sA σ 76 0 ((((100 : Int32) * a2) + a3)).toNatClampNeg)) → (vp_in a1 12 ∧ ((¬ (sA σ 79 0 (a1).toNatClampNeg) = (1 : Int32) → (vp_in a1 12 ∧ ((¬ (sA σ 79 0 (a1).toNatClampNeg) = (2 : Int32) → (vp_in a1 12 ∧ ((¬ (sA σ 77 0 ((((100 : Int32) * a2) + a3)).toNatClampNeg) = (sA σ 81 0 (a1).toNatClampNeg) → fX11_isLike_b130 N a1 a2 a3 Q σ (sA σ 77 0 ((((100 : Int32) * a2) + a3)).toNatClampNeg) x3 (0 : Int32)) ∧ ((sA σ 77 0 ((((100 : Int32) * a2) + a3)).toNatClampNeg) = (sA σ 81 0 (a1).toNatClampNeg) → fX11_isLike_b130 N a1 a2 a3 Q σ (sA σ 77 0 ((((100 : Int32) * a2) + a3)).toNatClampNeg) x3 (1 : Int32))))) ∧ ((sA σ 79 0 (a1).toNatClampNeg) = (2 : Int32) → (vp_in ((x3 + (sA σ 77 0 ((((100 : Int32) * a2) + a3)).toNatClampNeg)) - (1 : Int32)) 3000 ∧ (vp_in a1 12 ∧ ((¬ (sA σ 72 0 (((x3 + (sA σ 77 0 ((((100 : Int32) * a2) + a3)).toNatClampNeg)) - (1 : Int32))).toNatClampNeg) = (sA σ 80 0 (a1).toNatClampNeg) → Q (0 : Int32) σ) ∧ ((sA σ 72 0 (((x3 + (sA σ 77 0 ((((100 : Int32) * a2) + a3)).toNatClampNeg)) - (1 : Int32))).toNatClampNeg) = (sA σ 80 0 (a1).toNatClampNeg) → Q (1 : Int32) σ)))))))) ∧ ((sA σ 79 0 (a1).toNatClampNeg) = (1 : Int32) → (vp_in a1 12 ∧ (((sA σ 77 0 ((((100 : Int32) * a2) + a3)).toNatClampNeg) = (sA σ 80 0 (a1).toNatClampNeg) → fX11_isLike_b71 N a1 a2 a3 Q σ) ∧ (¬ (sA σ 77 0 ((((100 : Int32) * a2) + a3)).toNatClampNeg) = (sA σ 80 0 (a1).toNatClampNeg) → (((sA σ 77 0 ((((100 : Int32) * a2) + a3)).toNatClampNeg) ≤ (12 : Int32) → Q (0 : Int32) σ) ∧ (¬ (sA σ 77 0 ((((100 : Int32) * a2) + a3)).toNatClampNeg) ≤ (12 : Int32) → (vp_in a1 12 ∧ ((¬ (sA σ 80 0 (a1).toNatClampNeg) = (12 : Int32) → Q (0 : Int32) σ) ∧ ((sA σ 80 0 (a1).toNatClampNeg) = (12 : Int32) → fX11_isLike_b71 N a1 a2 a3 Q σ)))))))))))))
set_option maxHeartbeats 4000000 in
set_option maxRecDepth 100000 in
theorem eX11_isLike {l : Launch} {E : EC} {lay : Nat → Nat → Nat} {L : List (Nat × Nat)} {A : Nat → Prop} {N : Nat} {σ : St} {a1 : Int32} {a2 : Int32} {a3 : Int32} {Q : Int32 → St → Prop} (hf : fX11_isLike N σ a1 a2 a3 Q) (hm0 : (11, 0) ∈ L) : Met l yX11_isLike (.code yX11_isLike cX11_isLike 8 (some .boolean) :: big) rmX11_isLike (va_Pc [.ref (lay 11 0), .int a1, .int a2, .int a3] (Bp E lay L A σ)) (va_Qi (fun r u => Q r u ∧ narrow .boolean (.int r) = .int r) (Bd E lay L A) A) 0 0 A := by
  refine x_met (by decide +kernel) (Nat.le_of_ble_eq_true rfl) ?_
  intro p e s m args below meth c ls C hret hw hl
  have hx := C.1
  have hb := C.2.1
  have hl : lv_has ls 8 [(0, .ref (lay 11 0)), (1, .int a1), (2, .int a2), (3, .int a3)] := hl
  unfold fX11_isLike at hf
  refine lv_aload_n hx hb dX11_isLike_0 rfl (lv_at hl 0 rfl) ?_
  have hm_1 : (77, 0) ∈ L := hw.2.2.2.1 11 0 hm0 17 (by decide) (by decide) rfl
  refine x_get (v := .ref (lay 77 0)) (j := 17) C hw hm0 rfl (by decide) (by decide) rfl q897 dX11_isLike_1 ?_
  refine lv_bipush (v := 100) hx hb dX11_isLike_4 (by decide) ?_
  refine lv_iload_n hx hb dX11_isLike_6 rfl (lv_at hl 2 rfl) ?_
  refine lv_imul hx hb dX11_isLike_7 ?_
  refine lv_iload_n hx hb dX11_isLike_8 rfl (lv_at hl 3 rfl) ?_
  refine lv_iadd hx hb dX11_isLike_9 ?_
  refine x_iald C hw hm_1 (by decide) rfl hf.1 dX11_isLike_10 ?_
  replace hf := hf.2
  refine lv_istore (lv' := [(4, .int (sA σ 77 0 ((((100 : Int32) * a2) + a3)).toNatClampNeg)), (0, .ref (lay 11 0)), (1, .int a1), (2, .int a2), (3, .int a3)]) hx hb dX11_isLike_11 hl (by decide) rfl (fun ls hl => ?_)
  refine lv_sipush (v := 200) hx hb dX11_isLike_13 (by decide) ?_
  refine lv_iload_n hx hb dX11_isLike_16 rfl (lv_at hl 3 rfl) ?_
  refine lv_imul hx hb dX11_isLike_17 ?_
  refine lv_aload_n hx hb dX11_isLike_18 rfl (lv_at hl 1 rfl) ?_
  have hm_2 : (76, 0) ∈ L := hw.2.2.2.1 11 0 hm0 16 (by decide) (by decide) rfl
  refine x_get (v := .ref (lay 76 0)) (j := 16) C hw hm0 rfl (by decide) (by decide) rfl q896 dX11_isLike_19 ?_
  refine lv_bipush (v := 100) hx hb dX11_isLike_22 (by decide) ?_
  refine lv_iload_n hx hb dX11_isLike_24 rfl (lv_at hl 3 rfl) ?_
  refine lv_imul hx hb dX11_isLike_25 ?_
  refine lv_iload_n hx hb dX11_isLike_26 rfl (lv_at hl 4 rfl) ?_
  refine lv_iadd hx hb dX11_isLike_27 ?_
  refine x_iald C hw hm_2 (by decide) rfl hf.1 dX11_isLike_28 ?_
  replace hf := hf.2
  refine lv_iadd hx hb dX11_isLike_29 ?_
  refine lv_topi (fun x3 ex3 => ?_)
  replace hf := hf x3 ex3
  refine lv_istore (lv' := [(5, .int x3), (4, .int (sA σ 77 0 ((((100 : Int32) * a2) + a3)).toNatClampNeg)), (0, .ref (lay 11 0)), (1, .int a1), (2, .int a2), (3, .int a3)]) hx hb dX11_isLike_30 hl (by decide) rfl (fun ls hl => ?_)
  refine lv_aload_n hx hb dX11_isLike_32 rfl (lv_at hl 2 rfl) ?_
  have hm_4 : (79, 0) ∈ L := hw.2.2.2.1 11 0 hm0 19 (by decide) (by decide) rfl
  refine x_get (v := .ref (lay 79 0)) (j := 19) C hw hm0 rfl (by decide) (by decide) rfl q899 dX11_isLike_33 ?_
  refine lv_iload_n hx hb dX11_isLike_36 rfl (lv_at hl 3 rfl) ?_
  refine x_iald C hw hm_4 (by decide) rfl hf.1 dX11_isLike_37 ?_
  replace hf := hf.2
  refine lv_iconst (v := 1) hx hb dX11_isLike_38 (by decide) ?_
  refine lv_icmp_ne (tgt := 77) hx hb dX11_isLike_39 (by decide) (fun c5 => ?_) (fun c5 => ?_)
  · replace hf := hf.1 c5
    refine lv_aload_n hx hb dX11_isLike_77 rfl (lv_at hl 2 rfl) ?_
    have hm_6 : (79, 0) ∈ L := hw.2.2.2.1 11 0 hm0 19 (by decide) (by decide) rfl
    refine x_get (v := .ref (lay 79 0)) (j := 19) C hw hm0 rfl (by decide) (by decide) rfl q899 dX11_isLike_78 ?_
    refine lv_iload_n hx hb dX11_isLike_81 rfl (lv_at hl 3 rfl) ?_
    refine x_iald C hw hm_6 (by decide) rfl hf.1 dX11_isLike_82 ?_
    replace hf := hf.2
    refine lv_iconst (v := 2) hx hb dX11_isLike_83 (by decide) ?_
    refine lv_icmp_ne (tgt := 114) hx hb dX11_isLike_84 (by decide) (fun c7 => ?_) (fun c7 => ?_)
    · replace hf := hf.1 c7
      refine lv_iload hx hb dX11_isLike_114 (lv_at hl 1 rfl) ?_
      refine lv_aload_n hx hb dX11_isLike_116 rfl (lv_at hl 2 rfl) ?_
      have hm_8 : (81, 0) ∈ L := hw.2.2.2.1 11 0 hm0 21 (by decide) (by decide) rfl
      refine x_get (v := .ref (lay 81 0)) (j := 21) C hw hm0 rfl (by decide) (by decide) rfl q901 dX11_isLike_117 ?_
      refine lv_iload_n hx hb dX11_isLike_120 rfl (lv_at hl 3 rfl) ?_
      refine x_iald C hw hm_8 (by decide) rfl hf.1 dX11_isLike_121 ?_
      replace hf := hf.2
      refine lv_icmp_ne (tgt := 129) hx hb dX11_isLike_122 (by decide) (fun c9 => ?_) (fun c9 => ?_)
      · replace hf := hf.1 c9
        refine lv_iconst (v := 0) hx hb dX11_isLike_129 (by decide) ?_
        exact eX11_isLike_b130 C hret hm0 σ (sA σ 77 0 ((((100 : Int32) * a2) + a3)).toNatClampNeg) x3 (0 : Int32) _ _ _ hf hw (lv_sub hl [2, 3, 1, 0] rfl)
      · replace hf := hf.2 c9
        refine lv_iconst (v := 1) hx hb dX11_isLike_125 (by decide) ?_
        refine lv_goto (tgt := 130) hx hb dX11_isLike_126 (by decide) ?_
        exact eX11_isLike_b130 C hret hm0 σ (sA σ 77 0 ((((100 : Int32) * a2) + a3)).toNatClampNeg) x3 (1 : Int32) _ _ _ hf hw (lv_sub hl [2, 3, 1, 0] rfl)
    · replace hf := hf.2 c7
      refine lv_aload_n hx hb dX11_isLike_87 rfl (lv_at hl 2 rfl) ?_
      have hm_17 : (72, 0) ∈ L := hw.2.2.2.1 11 0 hm0 12 (by decide) (by decide) rfl
      refine x_get (v := .ref (lay 72 0)) (j := 12) C hw hm0 rfl (by decide) (by decide) rfl q892 dX11_isLike_88 ?_
      refine lv_iload hx hb dX11_isLike_91 (lv_at hl 0 rfl) ?_
      refine lv_iload hx hb dX11_isLike_93 (lv_at hl 1 rfl) ?_
      refine lv_iadd hx hb dX11_isLike_95 ?_
      refine lv_iconst (v := 1) hx hb dX11_isLike_96 (by decide) ?_
      refine lv_isub hx hb dX11_isLike_97 ?_
      refine x_iald C hw hm_17 (by decide) rfl hf.1 dX11_isLike_98 ?_
      replace hf := hf.2
      refine lv_aload_n hx hb dX11_isLike_99 rfl (lv_at hl 2 rfl) ?_
      have hm_18 : (80, 0) ∈ L := hw.2.2.2.1 11 0 hm0 20 (by decide) (by decide) rfl
      refine x_get (v := .ref (lay 80 0)) (j := 20) C hw hm0 rfl (by decide) (by decide) rfl q900 dX11_isLike_100 ?_
      refine lv_iload_n hx hb dX11_isLike_103 rfl (lv_at hl 3 rfl) ?_
      refine x_iald C hw hm_18 (by decide) rfl hf.1 dX11_isLike_104 ?_
      replace hf := hf.2
      refine lv_icmp_ne (tgt := 112) hx hb dX11_isLike_105 (by decide) (fun c19 => ?_) (fun c19 => ?_)
      · replace hf := hf.1 c19
        refine lv_iconst (v := 0) hx hb dX11_isLike_112 (by decide) ?_
        exact x_zret C hret (by decide) hw ⟨hf, by decide⟩ dX11_isLike_113
      · replace hf := hf.2 c19
        refine lv_iconst (v := 1) hx hb dX11_isLike_108 (by decide) ?_
        refine lv_goto (tgt := 113) hx hb dX11_isLike_109 (by decide) ?_
        exact x_zret C hret (by decide) hw ⟨hf, by decide⟩ dX11_isLike_113
  · replace hf := hf.2 c5
    refine lv_iload hx hb dX11_isLike_42 (lv_at hl 1 rfl) ?_
    refine lv_aload_n hx hb dX11_isLike_44 rfl (lv_at hl 2 rfl) ?_
    have hm_20 : (80, 0) ∈ L := hw.2.2.2.1 11 0 hm0 20 (by decide) (by decide) rfl
    refine x_get (v := .ref (lay 80 0)) (j := 20) C hw hm0 rfl (by decide) (by decide) rfl q900 dX11_isLike_45 ?_
    refine lv_iload_n hx hb dX11_isLike_48 rfl (lv_at hl 3 rfl) ?_
    refine x_iald C hw hm_20 (by decide) rfl hf.1 dX11_isLike_49 ?_
    replace hf := hf.2
    refine lv_icmp_eq (tgt := 71) hx hb dX11_isLike_50 (by decide) (fun c21 => ?_) (fun c21 => ?_)
    · replace hf := hf.1 c21
      exact eX11_isLike_b71 C hret hm0 σ _ _ _ hf hw (lv_sub hl [] rfl)
    · replace hf := hf.2 c21
      refine lv_iload hx hb dX11_isLike_53 (lv_at hl 1 rfl) ?_
      refine lv_bipush (v := 12) hx hb dX11_isLike_55 (by decide) ?_
      refine lv_icmp_le (tgt := 75) hx hb dX11_isLike_57 (by decide) (fun c22 => ?_) (fun c22 => ?_)
      · replace hf := hf.1 c22
        refine lv_iconst (v := 0) hx hb dX11_isLike_75 (by decide) ?_
        exact x_zret C hret (by decide) hw ⟨hf, by decide⟩ dX11_isLike_76
      · replace hf := hf.2 c22
        refine lv_aload_n hx hb dX11_isLike_60 rfl (lv_at hl 2 rfl) ?_
        have hm_23 : (80, 0) ∈ L := hw.2.2.2.1 11 0 hm0 20 (by decide) (by decide) rfl
        refine x_get (v := .ref (lay 80 0)) (j := 20) C hw hm0 rfl (by decide) (by decide) rfl q900 dX11_isLike_61 ?_
        refine lv_iload_n hx hb dX11_isLike_64 rfl (lv_at hl 3 rfl) ?_
        refine x_iald C hw hm_23 (by decide) rfl hf.1 dX11_isLike_65 ?_
        replace hf := hf.2
        refine lv_bipush (v := 12) hx hb dX11_isLike_66 (by decide) ?_
        refine lv_icmp_ne (tgt := 75) hx hb dX11_isLike_68 (by decide) (fun c24 => ?_) (fun c24 => ?_)
        · replace hf := hf.1 c24
          refine lv_iconst (v := 0) hx hb dX11_isLike_75 (by decide) ?_
          exact x_zret C hret (by decide) hw ⟨hf, by decide⟩ dX11_isLike_76
        · replace hf := hf.2 c24
          exact eX11_isLike_b71 C hret hm0 σ _ _ _ hf hw (lv_sub hl [] rfl)
-- X11_countIn
abbrev rmX11_countIn : Room := { frames := 1, cells := 0, slots := 0, locals := 27 }
def fX11_countIn_b42_6 (N : Nat) (a1 : Int32) (a2 : Int32) (a3 : Int32) (a4 : Int32) (Q : Int32 → St → Prop) (Kh : St → Int32 → Int32 → Prop) (Kx51 : St → Int32 → Prop) (σ : St) (v6 : Int32) (t0 : Int32) (t1 : Int32) : Prop := Kh σ (t1 + t0) (v6 + (1 : Int32))
def fX11_countIn_l6 (N : Nat) (a1 : Int32) (a2 : Int32) (a3 : Int32) (a4 : Int32) (Q : Int32 → St → Prop) (Kx51 : St → Int32 → Prop) : Nat → St → Int32 → Int32 → Prop
  | 0, _, _, _ => False
  | n + 1, σ, v5, v6 => ((a4 ≤ v6 → Kx51 σ v5) ∧ (¬ a4 ≤ v6 → (vp_in a2 15 ∧ (((sA σ 75 0 (a2).toNatClampNeg) ≤ v6 → Kx51 σ v5) ∧ (¬ (sA σ 75 0 (a2).toNatClampNeg) ≤ v6 → fX11_isLike N σ a1 a2 v6 (fun (r5 : Int32) (σ4 : St) => ((r5 = 0 → fX11_countIn_b42_6 N a1 a2 a3 a4 Q (fun (σ : St) (w5 : Int32) (w6 : Int32) => fX11_countIn_l6 N a1 a2 a3 a4 Q Kx51 n σ w5 w6) Kx51 σ4 v6 (0 : Int32) v5) ∧ (¬ r5 = 0 → fX11_countIn_b42_6 N a1 a2 a3 a4 Q (fun (σ : St) (w5 : Int32) (w6 : Int32) => fX11_countIn_l6 N a1 a2 a3 a4 Q Kx51 n σ w5 w6) Kx51 σ4 v6 (1 : Int32) v5))))))))
set_option maxHeartbeats 4000000 in
set_option maxRecDepth 100000 in
theorem eX11_countIn_b42_6 {p : Program} {l : Launch} {e : Env} {s : State} {m : MethodId} {args : Array Value} {below : List Frame} {meth : Method} {c : Code} {E : EC} {lay : Nat → Nat → Nat} {L : List (Nat × Nat)} {A : Nat → Prop} (C : Cx p s m args c meth yX11_countIn.cls cX11_countIn 7 E A) (hret : meth.sig.returnType = some .int) {N : Nat} {a1 : Int32} {a2 : Int32} {a3 : Int32} {a4 : Int32} {Q : Int32 → St → Prop} {Kh : St → Int32 → Int32 → Prop} {Kx51 : St → Int32 → Prop} (hm0 : (11, 0) ∈ L) (hKh : ∀ (σ : St) (w5 : Int32) (w6 : Int32) (H : Heap) (locs : List Loc) (ls : Array Slot), Kh σ w5 w6 → Wo E lay L A s σ H locs → lv_has ls 7 [(0, .ref (lay 11 0)), (1, .int a1), (2, .int a2), (4, .int a4), (5, .int w5), (6, .int w6)] → W p l e rmX11_countIn s m args below meth c H locs 0 0 (MQ below (va_Qi Q (Bd E lay L A) A) args s 0 0 A) (F0 m 6 ls [])) (hK51 : ∀ (σ : St) (w5 : Int32) (H : Heap) (locs : List Loc) (ls : Array Slot), Kx51 σ w5 → Wo E lay L A s σ H locs → lv_has ls 7 [(5, .int w5)] → W p l e rmX11_countIn s m args below meth c H locs 0 0 (MQ below (va_Qi Q (Bd E lay L A) A) args s 0 0 A) (F0 m 51 ls [])) (σ : St) (v6 : Int32) (t0 : Int32) (t1 : Int32) (H : Heap) (locs : List Loc) (ls : Array Slot) (hf : fX11_countIn_b42_6 N a1 a2 a3 a4 Q Kh Kx51 σ v6 t0 t1) (hw : Wo E lay L A s σ H locs) (hl : lv_has ls 7 [(0, .ref (lay 11 0)), (1, .int a1), (2, .int a2), (4, .int a4), (6, .int v6)]) : W p l e rmX11_countIn s m args below meth c H locs 0 0 (MQ below (va_Qi Q (Bd E lay L A) A) args s 0 0 A) (F0 m 42 ls [.int t0, .int t1]) := by
  have hx := C.1
  have hb := C.2.1
  unfold fX11_countIn_b42_6 at hf
  refine lv_iadd hx hb dX11_countIn_42 ?_
  refine lv_istore (lv' := [(5, .int (t1 + t0)), (0, .ref (lay 11 0)), (1, .int a1), (2, .int a2), (4, .int a4), (6, .int v6)]) hx hb dX11_countIn_43 hl (by decide) rfl (fun ls hl => ?_)
  refine lv_iinc (v := (v6 + (1 : Int32))) (lv' := [(6, .int (v6 + (1 : Int32))), (5, .int (t1 + t0)), (0, .ref (lay 11 0)), (1, .int a1), (2, .int a2), (4, .int a4)]) hx hb dX11_countIn_45 hl (k := 5) rfl (by rfl) (by decide) rfl (fun ls hl => ?_)
  refine lv_goto (tgt := 6) hx hb dX11_countIn_48 (by decide) ?_
  exact hKh σ (t1 + t0) (v6 + (1 : Int32)) _ _ _ hf hw (lv_sub hl [2, 3, 4, 5, 1, 0] rfl)
set_option maxHeartbeats 4000000 in
set_option maxRecDepth 100000 in
theorem eX11_countIn_l6 {p : Program} {l : Launch} {e : Env} {s : State} {m : MethodId} {args : Array Value} {below : List Frame} {meth : Method} {c : Code} {E : EC} {lay : Nat → Nat → Nat} {L : List (Nat × Nat)} {A : Nat → Prop} (C : Cx p s m args c meth yX11_countIn.cls cX11_countIn 7 E A) (hret : meth.sig.returnType = some .int) {N : Nat} {a1 : Int32} {a2 : Int32} {a3 : Int32} {a4 : Int32} {Q : Int32 → St → Prop} {Kx51 : St → Int32 → Prop} (hm0 : (11, 0) ∈ L) (hK51 : ∀ (σ : St) (w5 : Int32) (H : Heap) (locs : List Loc) (ls : Array Slot), Kx51 σ w5 → Wo E lay L A s σ H locs → lv_has ls 7 [(5, .int w5)] → W p l e rmX11_countIn s m args below meth c H locs 0 0 (MQ below (va_Qi Q (Bd E lay L A) A) args s 0 0 A) (F0 m 51 ls [])) : ∀ (n : Nat) (σ : St) (v5 : Int32) (v6 : Int32) (H : Heap) (locs : List Loc) (ls : Array Slot), fX11_countIn_l6 N a1 a2 a3 a4 Q Kx51 n σ v5 v6 → Wo E lay L A s σ H locs → lv_has ls 7 [(0, .ref (lay 11 0)), (1, .int a1), (2, .int a2), (4, .int a4), (5, .int v5), (6, .int v6)] → W p l e rmX11_countIn s m args below meth c H locs 0 0 (MQ below (va_Qi Q (Bd E lay L A) A) args s 0 0 A) (F0 m 6 ls []) := by
  have hx := C.1
  have hb := C.2.1
  intro n
  induction n with
  | zero => intro σ v5 v6 H locs ls hf; exact hf.elim
  | succ n ih =>
    intro σ v5 v6 H locs ls hf hw hl
    rw [fX11_countIn_l6] at hf
    refine lv_iload hx hb dX11_countIn_6 (lv_at hl 5 rfl) ?_
    refine lv_iload hx hb dX11_countIn_8 (lv_at hl 3 rfl) ?_
    refine lv_icmp_ge (tgt := 51) hx hb dX11_countIn_10 (by decide) (fun c1 => ?_) (fun c1 => ?_)
    · replace hf := hf.1 c1
      exact hK51 σ v5 _ _ _ hf hw (lv_sub hl [4] rfl)
    · replace hf := hf.2 c1
      refine lv_iload hx hb dX11_countIn_13 (lv_at hl 5 rfl) ?_
      refine lv_aload_n hx hb dX11_countIn_15 rfl (lv_at hl 0 rfl) ?_
      have hm_2 : (75, 0) ∈ L := hw.2.2.2.1 11 0 hm0 15 (by decide) (by decide) rfl
      refine x_get (v := .ref (lay 75 0)) (j := 15) C hw hm0 rfl (by decide) (by decide) rfl q895 dX11_countIn_16 ?_
      refine lv_iload_n hx hb dX11_countIn_19 rfl (lv_at hl 2 rfl) ?_
      refine x_iald C hw hm_2 (by decide) rfl hf.1 dX11_countIn_20 ?_
      replace hf := hf.2
      refine lv_icmp_ge (tgt := 51) hx hb dX11_countIn_21 (by decide) (fun c3 => ?_) (fun c3 => ?_)
      · replace hf := hf.1 c3
        exact hK51 σ v5 _ _ _ hf hw (lv_sub hl [4] rfl)
      · replace hf := hf.2 c3
        refine lv_iload hx hb dX11_countIn_24 (lv_at hl 4 rfl) ?_
        refine lv_aload_n hx hb dX11_countIn_26 rfl (lv_at hl 0 rfl) ?_
        refine lv_iload_n hx hb dX11_countIn_27 rfl (lv_at hl 1 rfl) ?_
        refine lv_iload_n hx hb dX11_countIn_28 rfl (lv_at hl 2 rfl) ?_
        refine lv_iload hx hb dX11_countIn_29 (lv_at hl 5 rfl) ?_
        refine x_runi hw (x_V (n := 3) (rest := [.int v5]) C hw hm0 (by decide) (eX11_isLike hf hm0) q1071 q1073 q31 q53 q1074 rfl rfl (by decide +kernel) ⟨Nat.le_of_ble_eq_true rfl, Nat.le_of_ble_eq_true rfl⟩ rfl hl.1 rfl (Nat.le_of_ble_eq_true rfl) dX11_countIn_31) (fun r5 σ4 H locs hf hw => ?_)
        have hzr5 := hf.2
        replace hf := hf.1
        try dsimp only at hf
        refine lv_if_eq (tgt := 41) hx hb dX11_countIn_34 (by decide) (fun c6 => ?_) (fun c6 => ?_)
        · replace hf := hf.1 c6
          refine lv_iconst (v := 0) hx hb dX11_countIn_41 (by decide) ?_
          exact eX11_countIn_b42_6 C hret hm0 ih hK51 σ4 v6 (0 : Int32) v5 _ _ _ hf hw (lv_sub hl [0, 1, 2, 3, 5] rfl)
        · replace hf := hf.2 c6
          refine lv_iconst (v := 1) hx hb dX11_countIn_37 (by decide) ?_
          refine lv_goto (tgt := 42) hx hb dX11_countIn_38 (by decide) ?_
          exact eX11_countIn_b42_6 C hret hm0 ih hK51 σ4 v6 (1 : Int32) v5 _ _ _ hf hw (lv_sub hl [0, 1, 2, 3, 5] rfl)
def fX11_countIn (N : Nat) (σ : St) (a1 : Int32) (a2 : Int32) (a3 : Int32) (a4 : Int32) (Q : Int32 → St → Prop) : Prop := fX11_countIn_l6 N a1 a2 a3 a4 Q (fun (σ7 : St) (u51_5 : Int32) => Q u51_5 σ7) N σ (0 : Int32) a3
set_option maxHeartbeats 4000000 in
set_option maxRecDepth 100000 in
theorem eX11_countIn {l : Launch} {E : EC} {lay : Nat → Nat → Nat} {L : List (Nat × Nat)} {A : Nat → Prop} {N : Nat} {σ : St} {a1 : Int32} {a2 : Int32} {a3 : Int32} {a4 : Int32} {Q : Int32 → St → Prop} (hf : fX11_countIn N σ a1 a2 a3 a4 Q) (hm0 : (11, 0) ∈ L) : Met l yX11_countIn (.code yX11_countIn cX11_countIn 7 (some .int) :: big) rmX11_countIn (va_Pc [.ref (lay 11 0), .int a1, .int a2, .int a3, .int a4] (Bp E lay L A σ)) (va_Qi Q (Bd E lay L A) A) 0 0 A := by
  refine x_met (by decide +kernel) (Nat.le_of_ble_eq_true rfl) ?_
  intro p e s m args below meth c ls C hret hw hl
  have hx := C.1
  have hb := C.2.1
  have hl : lv_has ls 7 [(0, .ref (lay 11 0)), (1, .int a1), (2, .int a2), (3, .int a3), (4, .int a4)] := hl
  unfold fX11_countIn at hf
  refine lv_iconst (v := 0) hx hb dX11_countIn_0 (by decide) ?_
  refine lv_istore (lv' := [(5, .int (0 : Int32)), (0, .ref (lay 11 0)), (1, .int a1), (2, .int a2), (3, .int a3), (4, .int a4)]) hx hb dX11_countIn_1 hl (by decide) rfl (fun ls hl => ?_)
  refine lv_iload_n hx hb dX11_countIn_3 rfl (lv_at hl 4 rfl) ?_
  refine lv_istore (lv' := [(6, .int a3), (5, .int (0 : Int32)), (0, .ref (lay 11 0)), (1, .int a1), (2, .int a2), (3, .int a3), (4, .int a4)]) hx hb dX11_countIn_4 hl (by decide) rfl (fun ls hl => ?_)
  refine eX11_countIn_l6 C hret hm0 ?_ N σ (0 : Int32) a3 _ _ _ hf hw (lv_sub hl [2, 3, 4, 6, 1, 0] rfl)
  · intro σ7 u51_5 H locs ls hf hw hl
    refine lv_iload hx hb dX11_countIn_51 (lv_at hl 0 rfl) ?_
    exact x_iret C hret hw hf dX11_countIn_53
-- X11_countOf
abbrev rmX11_countOf : Room := { frames := 2, cells := 0, slots := 0, locals := 53 }
def fX11_countOf_b67_28 (N : Nat) (a1 : Int32) (a2 : Int32) (Q : Int32 → St → Prop) (Kh : St → Int32 → Int32 → Prop) (Kx75 : St → Int32 → Prop) (σ : St) (v4 : Int32) (t0 : Int32) (t1 : Int32) : Prop := Kh σ (t1 + t0) (v4 + (1 : Int32))
def fX11_countOf_l28 (N : Nat) (a1 : Int32) (a2 : Int32) (Q : Int32 → St → Prop) (Kx75 : St → Int32 → Prop) : Nat → St → Int32 → Int32 → Prop
  | 0, _, _, _ => False
  | n + 1, σ, v3, v4 => (vp_in a2 15 ∧ (((sA σ 71 0 (a2).toNatClampNeg) ≤ v4 → Kx75 σ v3) ∧ (¬ (sA σ 71 0 (a2).toNatClampNeg) ≤ v4 → (vp_in (((200 : Int32) * a2) + v4) 3000 ∧ (vp_in a1 12 ∧ ((¬ (sA σ 72 0 ((((200 : Int32) * a2) + v4)).toNatClampNeg) = (sA σ 80 0 (a1).toNatClampNeg) → fX11_countOf_b67_28 N a1 a2 Q (fun (σ : St) (w3 : Int32) (w4 : Int32) => fX11_countOf_l28 N a1 a2 Q Kx75 n σ w3 w4) Kx75 σ v4 (0 : Int32) v3) ∧ ((sA σ 72 0 ((((200 : Int32) * a2) + v4)).toNatClampNeg) = (sA σ 80 0 (a1).toNatClampNeg) → fX11_countOf_b67_28 N a1 a2 Q (fun (σ : St) (w3 : Int32) (w4 : Int32) => fX11_countOf_l28 N a1 a2 Q Kx75 n σ w3 w4) Kx75 σ v4 (1 : Int32) v3)))))))
set_option maxHeartbeats 4000000 in
set_option maxRecDepth 100000 in
theorem eX11_countOf_b67_28 {p : Program} {l : Launch} {e : Env} {s : State} {m : MethodId} {args : Array Value} {below : List Frame} {meth : Method} {c : Code} {E : EC} {lay : Nat → Nat → Nat} {L : List (Nat × Nat)} {A : Nat → Prop} (C : Cx p s m args c meth yX11_countOf.cls cX11_countOf 5 E A) (hret : meth.sig.returnType = some .int) {N : Nat} {a1 : Int32} {a2 : Int32} {Q : Int32 → St → Prop} {Kh : St → Int32 → Int32 → Prop} {Kx75 : St → Int32 → Prop} (hm0 : (11, 0) ∈ L) (hKh : ∀ (σ : St) (w3 : Int32) (w4 : Int32) (H : Heap) (locs : List Loc) (ls : Array Slot), Kh σ w3 w4 → Wo E lay L A s σ H locs → lv_has ls 5 [(0, .ref (lay 11 0)), (1, .int a1), (2, .int a2), (3, .int w3), (4, .int w4)] → W p l e rmX11_countOf s m args below meth c H locs 0 0 (MQ below (va_Qi Q (Bd E lay L A) A) args s 0 0 A) (F0 m 28 ls [])) (hK75 : ∀ (σ : St) (w3 : Int32) (H : Heap) (locs : List Loc) (ls : Array Slot), Kx75 σ w3 → Wo E lay L A s σ H locs → lv_has ls 5 [(3, .int w3)] → W p l e rmX11_countOf s m args below meth c H locs 0 0 (MQ below (va_Qi Q (Bd E lay L A) A) args s 0 0 A) (F0 m 75 ls [])) (σ : St) (v4 : Int32) (t0 : Int32) (t1 : Int32) (H : Heap) (locs : List Loc) (ls : Array Slot) (hf : fX11_countOf_b67_28 N a1 a2 Q Kh Kx75 σ v4 t0 t1) (hw : Wo E lay L A s σ H locs) (hl : lv_has ls 5 [(0, .ref (lay 11 0)), (1, .int a1), (2, .int a2), (4, .int v4)]) : W p l e rmX11_countOf s m args below meth c H locs 0 0 (MQ below (va_Qi Q (Bd E lay L A) A) args s 0 0 A) (F0 m 67 ls [.int t0, .int t1]) := by
  have hx := C.1
  have hb := C.2.1
  unfold fX11_countOf_b67_28 at hf
  refine lv_iadd hx hb dX11_countOf_67 ?_
  refine lv_istore_n (lv' := [(3, .int (t1 + t0)), (0, .ref (lay 11 0)), (1, .int a1), (2, .int a2), (4, .int v4)]) hx hb dX11_countOf_68 rfl hl (by decide) rfl (fun ls hl => ?_)
  refine lv_iinc (v := (v4 + (1 : Int32))) (lv' := [(4, .int (v4 + (1 : Int32))), (3, .int (t1 + t0)), (0, .ref (lay 11 0)), (1, .int a1), (2, .int a2)]) hx hb dX11_countOf_69 hl (k := 4) rfl (by rfl) (by decide) rfl (fun ls hl => ?_)
  refine lv_goto (tgt := 28) hx hb dX11_countOf_72 (by decide) ?_
  exact hKh σ (t1 + t0) (v4 + (1 : Int32)) _ _ _ hf hw (lv_sub hl [2, 3, 4, 1, 0] rfl)
set_option maxHeartbeats 4000000 in
set_option maxRecDepth 100000 in
theorem eX11_countOf_l28 {p : Program} {l : Launch} {e : Env} {s : State} {m : MethodId} {args : Array Value} {below : List Frame} {meth : Method} {c : Code} {E : EC} {lay : Nat → Nat → Nat} {L : List (Nat × Nat)} {A : Nat → Prop} (C : Cx p s m args c meth yX11_countOf.cls cX11_countOf 5 E A) (hret : meth.sig.returnType = some .int) {N : Nat} {a1 : Int32} {a2 : Int32} {Q : Int32 → St → Prop} {Kx75 : St → Int32 → Prop} (hm0 : (11, 0) ∈ L) (hK75 : ∀ (σ : St) (w3 : Int32) (H : Heap) (locs : List Loc) (ls : Array Slot), Kx75 σ w3 → Wo E lay L A s σ H locs → lv_has ls 5 [(3, .int w3)] → W p l e rmX11_countOf s m args below meth c H locs 0 0 (MQ below (va_Qi Q (Bd E lay L A) A) args s 0 0 A) (F0 m 75 ls [])) : ∀ (n : Nat) (σ : St) (v3 : Int32) (v4 : Int32) (H : Heap) (locs : List Loc) (ls : Array Slot), fX11_countOf_l28 N a1 a2 Q Kx75 n σ v3 v4 → Wo E lay L A s σ H locs → lv_has ls 5 [(0, .ref (lay 11 0)), (1, .int a1), (2, .int a2), (3, .int v3), (4, .int v4)] → W p l e rmX11_countOf s m args below meth c H locs 0 0 (MQ below (va_Qi Q (Bd E lay L A) A) args s 0 0 A) (F0 m 28 ls []) := by
  have hx := C.1
  have hb := C.2.1
  intro n
  induction n with
  | zero => intro σ v3 v4 H locs ls hf; exact hf.elim
  | succ n ih =>
    intro σ v3 v4 H locs ls hf hw hl
    rw [fX11_countOf_l28] at hf
    refine lv_iload hx hb dX11_countOf_28 (lv_at hl 4 rfl) ?_
    refine lv_aload_n hx hb dX11_countOf_30 rfl (lv_at hl 0 rfl) ?_
    have hm_3 : (71, 0) ∈ L := hw.2.2.2.1 11 0 hm0 11 (by decide) (by decide) rfl
    refine x_get (v := .ref (lay 71 0)) (j := 11) C hw hm0 rfl (by decide) (by decide) rfl q891 dX11_countOf_31 ?_
    refine lv_iload_n hx hb dX11_countOf_34 rfl (lv_at hl 2 rfl) ?_
    refine x_iald C hw hm_3 (by decide) rfl hf.1 dX11_countOf_35 ?_
    replace hf := hf.2
    refine lv_icmp_ge (tgt := 75) hx hb dX11_countOf_36 (by decide) (fun c4 => ?_) (fun c4 => ?_)
    · replace hf := hf.1 c4
      exact hK75 σ v3 _ _ _ hf hw (lv_sub hl [3] rfl)
    · replace hf := hf.2 c4
      refine lv_iload_n hx hb dX11_countOf_39 rfl (lv_at hl 3 rfl) ?_
      refine lv_aload_n hx hb dX11_countOf_40 rfl (lv_at hl 0 rfl) ?_
      have hm_5 : (72, 0) ∈ L := hw.2.2.2.1 11 0 hm0 12 (by decide) (by decide) rfl
      refine x_get (v := .ref (lay 72 0)) (j := 12) C hw hm0 rfl (by decide) (by decide) rfl q892 dX11_countOf_41 ?_
      refine lv_sipush (v := 200) hx hb dX11_countOf_44 (by decide) ?_
      refine lv_iload_n hx hb dX11_countOf_47 rfl (lv_at hl 2 rfl) ?_
      refine lv_imul hx hb dX11_countOf_48 ?_
      refine lv_iload hx hb dX11_countOf_49 (lv_at hl 4 rfl) ?_
      refine lv_iadd hx hb dX11_countOf_51 ?_
      refine x_iald C hw hm_5 (by decide) rfl hf.1 dX11_countOf_52 ?_
      replace hf := hf.2
      refine lv_aload_n hx hb dX11_countOf_53 rfl (lv_at hl 0 rfl) ?_
      have hm_6 : (80, 0) ∈ L := hw.2.2.2.1 11 0 hm0 20 (by decide) (by decide) rfl
      refine x_get (v := .ref (lay 80 0)) (j := 20) C hw hm0 rfl (by decide) (by decide) rfl q900 dX11_countOf_54 ?_
      refine lv_iload_n hx hb dX11_countOf_57 rfl (lv_at hl 1 rfl) ?_
      refine x_iald C hw hm_6 (by decide) rfl hf.1 dX11_countOf_58 ?_
      replace hf := hf.2
      refine lv_icmp_ne (tgt := 66) hx hb dX11_countOf_59 (by decide) (fun c7 => ?_) (fun c7 => ?_)
      · replace hf := hf.1 c7
        refine lv_iconst (v := 0) hx hb dX11_countOf_66 (by decide) ?_
        exact eX11_countOf_b67_28 C hret hm0 ih hK75 σ v4 (0 : Int32) v3 _ _ _ hf hw (lv_sub hl [0, 1, 2, 4] rfl)
      · replace hf := hf.2 c7
        refine lv_iconst (v := 1) hx hb dX11_countOf_62 (by decide) ?_
        refine lv_goto (tgt := 67) hx hb dX11_countOf_63 (by decide) ?_
        exact eX11_countOf_b67_28 C hret hm0 ih hK75 σ v4 (1 : Int32) v3 _ _ _ hf hw (lv_sub hl [0, 1, 2, 4] rfl)
def fX11_countOf (N : Nat) (σ : St) (a1 : Int32) (a2 : Int32) (Q : Int32 → St → Prop) : Prop := (vp_in a1 12 ∧ (((sA σ 79 0 (a1).toNatClampNeg) ≤ 0 → fX11_countOf_l28 N a1 a2 Q (fun (σ8 : St) (u75_3 : Int32) => Q u75_3 σ8) N σ (0 : Int32) (0 : Int32)) ∧ (¬ (sA σ 79 0 (a1).toNatClampNeg) ≤ 0 → (vp_in a2 15 ∧ fX11_countIn N σ a1 a2 (0 : Int32) (sA σ 75 0 (a2).toNatClampNeg) (fun (r11 : Int32) (σ10 : St) => Q r11 σ10)))))
set_option maxHeartbeats 4000000 in
set_option maxRecDepth 100000 in
theorem eX11_countOf {l : Launch} {E : EC} {lay : Nat → Nat → Nat} {L : List (Nat × Nat)} {A : Nat → Prop} {N : Nat} {σ : St} {a1 : Int32} {a2 : Int32} {Q : Int32 → St → Prop} (hf : fX11_countOf N σ a1 a2 Q) (hm0 : (11, 0) ∈ L) : Met l yX11_countOf (.code yX11_countOf cX11_countOf 5 (some .int) :: big) rmX11_countOf (va_Pc [.ref (lay 11 0), .int a1, .int a2] (Bp E lay L A σ)) (va_Qi Q (Bd E lay L A) A) 0 0 A := by
  refine x_met (by decide +kernel) (Nat.le_of_ble_eq_true rfl) ?_
  intro p e s m args below meth c ls C hret hw hl
  have hx := C.1
  have hb := C.2.1
  have hl : lv_has ls 5 [(0, .ref (lay 11 0)), (1, .int a1), (2, .int a2)] := hl
  unfold fX11_countOf at hf
  refine lv_aload_n hx hb dX11_countOf_0 rfl (lv_at hl 0 rfl) ?_
  have hm_1 : (79, 0) ∈ L := hw.2.2.2.1 11 0 hm0 19 (by decide) (by decide) rfl
  refine x_get (v := .ref (lay 79 0)) (j := 19) C hw hm0 rfl (by decide) (by decide) rfl q899 dX11_countOf_1 ?_
  refine lv_iload_n hx hb dX11_countOf_4 rfl (lv_at hl 1 rfl) ?_
  refine x_iald C hw hm_1 (by decide) rfl hf.1 dX11_countOf_5 ?_
  replace hf := hf.2
  refine lv_if_le (tgt := 23) hx hb dX11_countOf_6 (by decide) (fun c2 => ?_) (fun c2 => ?_)
  · replace hf := hf.1 c2
    refine lv_iconst (v := 0) hx hb dX11_countOf_23 (by decide) ?_
    refine lv_istore_n (lv' := [(3, .int (0 : Int32)), (0, .ref (lay 11 0)), (1, .int a1), (2, .int a2)]) hx hb dX11_countOf_24 rfl hl (by decide) rfl (fun ls hl => ?_)
    refine lv_iconst (v := 0) hx hb dX11_countOf_25 (by decide) ?_
    refine lv_istore (lv' := [(4, .int (0 : Int32)), (3, .int (0 : Int32)), (0, .ref (lay 11 0)), (1, .int a1), (2, .int a2)]) hx hb dX11_countOf_26 hl (by decide) rfl (fun ls hl => ?_)
    refine eX11_countOf_l28 C hret hm0 ?_ N σ (0 : Int32) (0 : Int32) _ _ _ hf hw (lv_sub hl [2, 3, 4, 1, 0] rfl)
    · intro σ8 u75_3 H locs ls hf hw hl
      refine lv_iload_n hx hb dX11_countOf_75 rfl (lv_at hl 0 rfl) ?_
      exact x_iret C hret hw hf dX11_countOf_76
  · replace hf := hf.2 c2
    refine lv_aload_n hx hb dX11_countOf_9 rfl (lv_at hl 0 rfl) ?_
    refine lv_iload_n hx hb dX11_countOf_10 rfl (lv_at hl 1 rfl) ?_
    refine lv_iload_n hx hb dX11_countOf_11 rfl (lv_at hl 2 rfl) ?_
    refine lv_iconst (v := 0) hx hb dX11_countOf_12 (by decide) ?_
    refine lv_aload_n hx hb dX11_countOf_13 rfl (lv_at hl 0 rfl) ?_
    have hm_9 : (75, 0) ∈ L := hw.2.2.2.1 11 0 hm0 15 (by decide) (by decide) rfl
    refine x_get (v := .ref (lay 75 0)) (j := 15) C hw hm0 rfl (by decide) (by decide) rfl q895 dX11_countOf_14 ?_
    refine lv_iload_n hx hb dX11_countOf_17 rfl (lv_at hl 2 rfl) ?_
    refine x_iald C hw hm_9 (by decide) rfl hf.1 dX11_countOf_18 ?_
    replace hf := hf.2
    refine x_runi hw (x_V (n := 4) (rest := []) C hw hm0 (by decide) (eX11_countIn hf hm0) q1067 q1069 q30 q53 q1070 rfl rfl (by decide +kernel) ⟨Nat.le_of_ble_eq_true rfl, Nat.le_of_ble_eq_true rfl⟩ rfl hl.1 rfl (Nat.le_of_ble_eq_true rfl) dX11_countOf_19) (fun r11 σ10 H locs hf hw => ?_)
    try dsimp only at hf
    exact x_iret C hret hw hf dX11_countOf_22
-- X11_setCounts
abbrev rmX11_setCounts : Room := { frames := 3, cells := 0, slots := 0, locals := 77 }
def fX11_setCounts_l12 (N : Nat) (Q : St → Prop) (Kx43 : St → Int32 → Prop) : Nat → St → Int32 → Int32 → Prop
  | 0, _, _, _ => False
  | n + 1, σ, v1, v2 => (((sF σ 11 0 18) ≤ v2 → Kx43 σ v1) ∧ (¬ (sF σ 11 0 18) ≤ v2 → fX11_countOf N σ v2 v1 (fun (r5 : Int32) (σ4 : St) => (vp_in (((12 : Int32) * v1) + v2) 168 ∧ ∀ σ6 : St, σ6 = setA σ4 83 0 ((((12 : Int32) * v1) + v2)).toNatClampNeg r5 → fX11_setCounts_l12 N Q Kx43 n σ6 v1 (v2 + (1 : Int32))))))
def fX11_setCounts_l2 (N : Nat) (Q : St → Prop) (Kx49 : St → Prop) : Nat → St → Int32 → Prop
  | 0, _, _ => False
  | n + 1, σ, v1 => (((sF σ 11 0 6) ≤ v1 → Kx49 σ) ∧ (¬ (sF σ 11 0 6) ≤ v1 → fX11_setCounts_l12 N Q (fun (σ7 : St) (u43_1 : Int32) => fX11_setCounts_l2 N Q Kx49 n σ7 (u43_1 + (1 : Int32))) N σ v1 (0 : Int32)))
set_option maxHeartbeats 4000000 in
set_option maxRecDepth 100000 in
theorem eX11_setCounts_l12 {p : Program} {l : Launch} {e : Env} {s : State} {m : MethodId} {args : Array Value} {below : List Frame} {meth : Method} {c : Code} {E : EC} {lay : Nat → Nat → Nat} {L : List (Nat × Nat)} {A : Nat → Prop} (C : Cx p s m args c meth yX11_setCounts.cls cX11_setCounts 3 E A) (hret : meth.sig.returnType = none) {N : Nat} {Q : St → Prop} {Kx43 : St → Int32 → Prop} (hm0 : (11, 0) ∈ L) (hK43 : ∀ (σ : St) (w1 : Int32) (H : Heap) (locs : List Loc) (ls : Array Slot), Kx43 σ w1 → Wo E lay L A s σ H locs → lv_has ls 3 [(0, .ref (lay 11 0)), (1, .int w1)] → W p l e rmX11_setCounts s m args below meth c H locs 0 0 (MQ below (va_Qv Q (Bd E lay L A) A) args s 0 0 A) (F0 m 43 ls [])) : ∀ (n : Nat) (σ : St) (v1 : Int32) (v2 : Int32) (H : Heap) (locs : List Loc) (ls : Array Slot), fX11_setCounts_l12 N Q Kx43 n σ v1 v2 → Wo E lay L A s σ H locs → lv_has ls 3 [(0, .ref (lay 11 0)), (1, .int v1), (2, .int v2)] → W p l e rmX11_setCounts s m args below meth c H locs 0 0 (MQ below (va_Qv Q (Bd E lay L A) A) args s 0 0 A) (F0 m 12 ls []) := by
  have hx := C.1
  have hb := C.2.1
  intro n
  induction n with
  | zero => intro σ v1 v2 H locs ls hf; exact hf.elim
  | succ n ih =>
    intro σ v1 v2 H locs ls hf hw hl
    rw [fX11_setCounts_l12] at hf
    refine lv_iload_n hx hb dX11_setCounts_12 rfl (lv_at hl 2 rfl) ?_
    refine lv_aload_n hx hb dX11_setCounts_13 rfl (lv_at hl 0 rfl) ?_
    refine x_get (v := .int (sF σ 11 0 18)) (j := 18) C hw hm0 rfl (by decide) (by decide) rfl q898 dX11_setCounts_14 ?_
    refine lv_icmp_ge (tgt := 43) hx hb dX11_setCounts_17 (by decide) (fun c2 => ?_) (fun c2 => ?_)
    · replace hf := hf.1 c2
      exact hK43 σ v1 _ _ _ hf hw (lv_sub hl [0, 1] rfl)
    · replace hf := hf.2 c2
      refine lv_aload_n hx hb dX11_setCounts_20 rfl (lv_at hl 0 rfl) ?_
      have hm_3 : (83, 0) ∈ L := hw.2.2.2.1 11 0 hm0 23 (by decide) (by decide) rfl
      refine x_get (v := .ref (lay 83 0)) (j := 23) C hw hm0 rfl (by decide) (by decide) rfl q903 dX11_setCounts_21 ?_
      refine lv_bipush (v := 12) hx hb dX11_setCounts_24 (by decide) ?_
      refine lv_iload_n hx hb dX11_setCounts_26 rfl (lv_at hl 1 rfl) ?_
      refine lv_imul hx hb dX11_setCounts_27 ?_
      refine lv_iload_n hx hb dX11_setCounts_28 rfl (lv_at hl 2 rfl) ?_
      refine lv_iadd hx hb dX11_setCounts_29 ?_
      refine lv_aload_n hx hb dX11_setCounts_30 rfl (lv_at hl 0 rfl) ?_
      refine lv_iload_n hx hb dX11_setCounts_31 rfl (lv_at hl 2 rfl) ?_
      refine lv_iload_n hx hb dX11_setCounts_32 rfl (lv_at hl 1 rfl) ?_
      refine x_runi hw (x_V (n := 2) (rest := [.int (((12 : Int32) * v1) + v2), .ref (lay 83 0)]) C hw hm0 (by decide) (eX11_countOf hf hm0) q1063 q1065 q29 q53 q1066 rfl rfl (by decide +kernel) ⟨Nat.le_of_ble_eq_true rfl, Nat.le_of_ble_eq_true rfl⟩ rfl hl.1 rfl (Nat.le_of_ble_eq_true rfl) dX11_setCounts_33) (fun r5 σ4 H locs hf hw => ?_)
      try dsimp only at hf
      refine x_iast C hw hm_3 (by decide) rfl hf.1 dX11_setCounts_36 (fun σ6 H locs eσ6 hw => ?_)
      replace hf := hf.2 σ6 eσ6
      refine lv_iinc (v := (v2 + (1 : Int32))) (lv' := [(2, .int (v2 + (1 : Int32))), (0, .ref (lay 11 0)), (1, .int v1)]) hx hb dX11_setCounts_37 hl (k := 2) rfl (by rfl) (by decide) rfl (fun ls hl => ?_)
      refine lv_goto (tgt := 12) hx hb dX11_setCounts_40 (by decide) ?_
      exact ih σ6 v1 (v2 + (1 : Int32)) _ _ _ hf hw (lv_sub hl [1, 2, 0] rfl)
set_option maxHeartbeats 4000000 in
set_option maxRecDepth 100000 in
theorem eX11_setCounts_l2 {p : Program} {l : Launch} {e : Env} {s : State} {m : MethodId} {args : Array Value} {below : List Frame} {meth : Method} {c : Code} {E : EC} {lay : Nat → Nat → Nat} {L : List (Nat × Nat)} {A : Nat → Prop} (C : Cx p s m args c meth yX11_setCounts.cls cX11_setCounts 3 E A) (hret : meth.sig.returnType = none) {N : Nat} {Q : St → Prop} {Kx49 : St → Prop} (hm0 : (11, 0) ∈ L) (hK49 : ∀ (σ : St) (H : Heap) (locs : List Loc) (ls : Array Slot), Kx49 σ → Wo E lay L A s σ H locs → lv_has ls 3 [] → W p l e rmX11_setCounts s m args below meth c H locs 0 0 (MQ below (va_Qv Q (Bd E lay L A) A) args s 0 0 A) (F0 m 49 ls [])) : ∀ (n : Nat) (σ : St) (v1 : Int32) (H : Heap) (locs : List Loc) (ls : Array Slot), fX11_setCounts_l2 N Q Kx49 n σ v1 → Wo E lay L A s σ H locs → lv_has ls 3 [(0, .ref (lay 11 0)), (1, .int v1)] → W p l e rmX11_setCounts s m args below meth c H locs 0 0 (MQ below (va_Qv Q (Bd E lay L A) A) args s 0 0 A) (F0 m 2 ls []) := by
  have hx := C.1
  have hb := C.2.1
  intro n
  induction n with
  | zero => intro σ v1 H locs ls hf; exact hf.elim
  | succ n ih =>
    intro σ v1 H locs ls hf hw hl
    rw [fX11_setCounts_l2] at hf
    refine lv_iload_n hx hb dX11_setCounts_2 rfl (lv_at hl 1 rfl) ?_
    refine lv_aload_n hx hb dX11_setCounts_3 rfl (lv_at hl 0 rfl) ?_
    refine x_get (v := .int (sF σ 11 0 6)) (j := 6) C hw hm0 rfl (by decide) (by decide) rfl q886 dX11_setCounts_4 ?_
    refine lv_icmp_ge (tgt := 49) hx hb dX11_setCounts_7 (by decide) (fun c1 => ?_) (fun c1 => ?_)
    · replace hf := hf.1 c1
      exact hK49 σ _ _ _ hf hw (lv_sub hl [] rfl)
    · replace hf := hf.2 c1
      refine lv_iconst (v := 0) hx hb dX11_setCounts_10 (by decide) ?_
      refine lv_istore_n (lv' := [(2, .int (0 : Int32)), (0, .ref (lay 11 0)), (1, .int v1)]) hx hb dX11_setCounts_11 rfl hl (by decide) rfl (fun ls hl => ?_)
      refine eX11_setCounts_l12 C hret hm0 ?_ N σ v1 (0 : Int32) _ _ _ hf hw (lv_sub hl [1, 2, 0] rfl)
      · intro σ7 u43_1 H locs ls hf hw hl
        refine lv_iinc (v := (u43_1 + (1 : Int32))) (lv' := [(1, .int (u43_1 + (1 : Int32))), (0, .ref (lay 11 0))]) hx hb dX11_setCounts_43 hl (k := 1) rfl (by rfl) (by decide) rfl (fun ls hl => ?_)
        refine lv_goto (tgt := 2) hx hb dX11_setCounts_46 (by decide) ?_
        exact ih σ7 (u43_1 + (1 : Int32)) _ _ _ hf hw (lv_sub hl [1, 0] rfl)
def fX11_setCounts (N : Nat) (σ : St) (Q : St → Prop) : Prop := fX11_setCounts_l2 N Q (fun (σ8 : St) => Q σ8) N σ (0 : Int32)
set_option maxHeartbeats 4000000 in
set_option maxRecDepth 100000 in
theorem eX11_setCounts {l : Launch} {E : EC} {lay : Nat → Nat → Nat} {L : List (Nat × Nat)} {A : Nat → Prop} {N : Nat} {σ : St} {Q : St → Prop} (hf : fX11_setCounts N σ Q) (hm0 : (11, 0) ∈ L) : Met l yX11_setCounts (.code yX11_setCounts cX11_setCounts 3 (none) :: big) rmX11_setCounts (va_Pc [.ref (lay 11 0)] (Bp E lay L A σ)) (va_Qv Q (Bd E lay L A) A) 0 0 A := by
  refine x_met (by decide +kernel) (Nat.le_of_ble_eq_true rfl) ?_
  intro p e s m args below meth c ls C hret hw hl
  have hx := C.1
  have hb := C.2.1
  have hl : lv_has ls 3 [(0, .ref (lay 11 0))] := hl
  unfold fX11_setCounts at hf
  refine lv_iconst (v := 0) hx hb dX11_setCounts_0 (by decide) ?_
  refine lv_istore_n (lv' := [(1, .int (0 : Int32)), (0, .ref (lay 11 0))]) hx hb dX11_setCounts_1 rfl hl (by decide) rfl (fun ls hl => ?_)
  refine eX11_setCounts_l2 C hret hm0 ?_ N σ (0 : Int32) _ _ _ hf hw (lv_sub hl [1, 0] rfl)
  · intro σ8 H locs ls hf hw hl
    exact x_vret C hret hw hf dX11_setCounts_49
-- X11_rateIn
abbrev rmX11_rateIn : Room := { frames := 1, cells := 0, slots := 0, locals := 21 }
def fX11_rateIn_b86_8 (N : Nat) (a1 : Int32) (a2 : Int32) (Q : Int32 → St → Prop) (Kh : St → Int32 → Int32 → Int32 → Prop) (Kx95 : St → Int32 → Int32 → Prop) (σ : St) (v3 : Int32) (v5 : Int32) (t0 : Int32) (t1 : Int32) : Prop := Kh σ v3 (t1 + t0) (v5 + (1 : Int32))
def fX11_rateIn_b43_8 (N : Nat) (a1 : Int32) (a2 : Int32) (Q : Int32 → St → Prop) (Kh : St → Int32 → Int32 → Int32 → Prop) (Kx95 : St → Int32 → Int32 → Prop) (σ : St) (v4 : Int32) (v5 : Int32) (t0 : Int32) (t1 : Int32) : Prop := fX11_has N σ a2 v5 (fun (r6 : Int32) (σ5 : St) => ((¬ r6 = 0 → (vp_in a1 12 ∧ ((¬ (sA σ5 79 0 (a1).toNatClampNeg) = 0 → (vp_in v5 15 ∧ fX11_rateIn_b86_8 N a1 a2 Q Kh Kx95 σ5 (t1 + t0) v5 (sA σ5 75 0 (v5).toNatClampNeg) v4)) ∧ ((sA σ5 79 0 (a1).toNatClampNeg) = 0 → (vp_in v5 15 ∧ fX11_rateIn_b86_8 N a1 a2 Q Kh Kx95 σ5 (t1 + t0) v5 (sA σ5 74 0 (v5).toNatClampNeg) v4))))) ∧ (r6 = 0 → fX11_rateIn_b86_8 N a1 a2 Q Kh Kx95 σ5 (t1 + t0) v5 (0 : Int32) v4)))
def fX11_rateIn_l8 (N : Nat) (a1 : Int32) (a2 : Int32) (Q : Int32 → St → Prop) (Kx95 : St → Int32 → Int32 → Prop) : Nat → St → Int32 → Int32 → Int32 → Prop
  | 0, _, _, _, _ => False
  | n + 1, σ, v3, v4, v5 => (((sF σ 11 0 6) ≤ v5 → Kx95 σ v3 v4) ∧ (¬ (sF σ 11 0 6) ≤ v5 → fX11_has N σ a2 v5 (fun (r3 : Int32) (σ2 : St) => ((r3 = 0 → fX11_rateIn_b43_8 N a1 a2 Q (fun (σ : St) (w3 : Int32) (w4 : Int32) (w5 : Int32) => fX11_rateIn_l8 N a1 a2 Q Kx95 n σ w3 w4 w5) Kx95 σ2 v4 v5 (0 : Int32) v3) ∧ (¬ r3 = 0 → (vp_in (((12 : Int32) * v5) + a1) 168 ∧ fX11_rateIn_b43_8 N a1 a2 Q (fun (σ : St) (w3 : Int32) (w4 : Int32) (w5 : Int32) => fX11_rateIn_l8 N a1 a2 Q Kx95 n σ w3 w4 w5) Kx95 σ2 v4 v5 (sA σ2 83 0 ((((12 : Int32) * v5) + a1)).toNatClampNeg) v3))))))
set_option maxHeartbeats 4000000 in
set_option maxRecDepth 100000 in
theorem eX11_rateIn_b86_8 {p : Program} {l : Launch} {e : Env} {s : State} {m : MethodId} {args : Array Value} {below : List Frame} {meth : Method} {c : Code} {E : EC} {lay : Nat → Nat → Nat} {L : List (Nat × Nat)} {A : Nat → Prop} (C : Cx p s m args c meth yX11_rateIn.cls cX11_rateIn 6 E A) (hret : meth.sig.returnType = some .int) {N : Nat} {a1 : Int32} {a2 : Int32} {Q : Int32 → St → Prop} {Kh : St → Int32 → Int32 → Int32 → Prop} {Kx95 : St → Int32 → Int32 → Prop} (hm0 : (11, 0) ∈ L) (hKh : ∀ (σ : St) (w3 : Int32) (w4 : Int32) (w5 : Int32) (H : Heap) (locs : List Loc) (ls : Array Slot), Kh σ w3 w4 w5 → Wo E lay L A s σ H locs → lv_has ls 6 [(0, .ref (lay 11 0)), (1, .int a1), (2, .int a2), (3, .int w3), (4, .int w4), (5, .int w5)] → W p l e rmX11_rateIn s m args below meth c H locs 0 0 (MQ below (va_Qi Q (Bd E lay L A) A) args s 0 0 A) (F0 m 8 ls [])) (hK95 : ∀ (σ : St) (w3 : Int32) (w4 : Int32) (H : Heap) (locs : List Loc) (ls : Array Slot), Kx95 σ w3 w4 → Wo E lay L A s σ H locs → lv_has ls 6 [(3, .int w3), (4, .int w4)] → W p l e rmX11_rateIn s m args below meth c H locs 0 0 (MQ below (va_Qi Q (Bd E lay L A) A) args s 0 0 A) (F0 m 95 ls [])) (σ : St) (v3 : Int32) (v5 : Int32) (t0 : Int32) (t1 : Int32) (H : Heap) (locs : List Loc) (ls : Array Slot) (hf : fX11_rateIn_b86_8 N a1 a2 Q Kh Kx95 σ v3 v5 t0 t1) (hw : Wo E lay L A s σ H locs) (hl : lv_has ls 6 [(0, .ref (lay 11 0)), (1, .int a1), (2, .int a2), (3, .int v3), (5, .int v5)]) : W p l e rmX11_rateIn s m args below meth c H locs 0 0 (MQ below (va_Qi Q (Bd E lay L A) A) args s 0 0 A) (F0 m 86 ls [.int t0, .int t1]) := by
  have hx := C.1
  have hb := C.2.1
  unfold fX11_rateIn_b86_8 at hf
  refine lv_iadd hx hb dX11_rateIn_86 ?_
  refine lv_istore (lv' := [(4, .int (t1 + t0)), (0, .ref (lay 11 0)), (1, .int a1), (2, .int a2), (3, .int v3), (5, .int v5)]) hx hb dX11_rateIn_87 hl (by decide) rfl (fun ls hl => ?_)
  refine lv_iinc (v := (v5 + (1 : Int32))) (lv' := [(5, .int (v5 + (1 : Int32))), (4, .int (t1 + t0)), (0, .ref (lay 11 0)), (1, .int a1), (2, .int a2), (3, .int v3)]) hx hb dX11_rateIn_89 hl (k := 5) rfl (by rfl) (by decide) rfl (fun ls hl => ?_)
  refine lv_goto (tgt := 8) hx hb dX11_rateIn_92 (by decide) ?_
  exact hKh σ v3 (t1 + t0) (v5 + (1 : Int32)) _ _ _ hf hw (lv_sub hl [2, 3, 4, 5, 1, 0] rfl)
set_option maxHeartbeats 4000000 in
set_option maxRecDepth 100000 in
theorem eX11_rateIn_b43_8 {p : Program} {l : Launch} {e : Env} {s : State} {m : MethodId} {args : Array Value} {below : List Frame} {meth : Method} {c : Code} {E : EC} {lay : Nat → Nat → Nat} {L : List (Nat × Nat)} {A : Nat → Prop} (C : Cx p s m args c meth yX11_rateIn.cls cX11_rateIn 6 E A) (hret : meth.sig.returnType = some .int) {N : Nat} {a1 : Int32} {a2 : Int32} {Q : Int32 → St → Prop} {Kh : St → Int32 → Int32 → Int32 → Prop} {Kx95 : St → Int32 → Int32 → Prop} (hm0 : (11, 0) ∈ L) (hKh : ∀ (σ : St) (w3 : Int32) (w4 : Int32) (w5 : Int32) (H : Heap) (locs : List Loc) (ls : Array Slot), Kh σ w3 w4 w5 → Wo E lay L A s σ H locs → lv_has ls 6 [(0, .ref (lay 11 0)), (1, .int a1), (2, .int a2), (3, .int w3), (4, .int w4), (5, .int w5)] → W p l e rmX11_rateIn s m args below meth c H locs 0 0 (MQ below (va_Qi Q (Bd E lay L A) A) args s 0 0 A) (F0 m 8 ls [])) (hK95 : ∀ (σ : St) (w3 : Int32) (w4 : Int32) (H : Heap) (locs : List Loc) (ls : Array Slot), Kx95 σ w3 w4 → Wo E lay L A s σ H locs → lv_has ls 6 [(3, .int w3), (4, .int w4)] → W p l e rmX11_rateIn s m args below meth c H locs 0 0 (MQ below (va_Qi Q (Bd E lay L A) A) args s 0 0 A) (F0 m 95 ls [])) (σ : St) (v4 : Int32) (v5 : Int32) (t0 : Int32) (t1 : Int32) (H : Heap) (locs : List Loc) (ls : Array Slot) (hf : fX11_rateIn_b43_8 N a1 a2 Q Kh Kx95 σ v4 v5 t0 t1) (hw : Wo E lay L A s σ H locs) (hl : lv_has ls 6 [(0, .ref (lay 11 0)), (1, .int a1), (2, .int a2), (4, .int v4), (5, .int v5)]) : W p l e rmX11_rateIn s m args below meth c H locs 0 0 (MQ below (va_Qi Q (Bd E lay L A) A) args s 0 0 A) (F0 m 43 ls [.int t0, .int t1]) := by
  have hx := C.1
  have hb := C.2.1
  unfold fX11_rateIn_b43_8 at hf
  refine lv_iadd hx hb dX11_rateIn_43 ?_
  refine lv_istore_n (lv' := [(3, .int (t1 + t0)), (0, .ref (lay 11 0)), (1, .int a1), (2, .int a2), (4, .int v4), (5, .int v5)]) hx hb dX11_rateIn_44 rfl hl (by decide) rfl (fun ls hl => ?_)
  refine lv_iload hx hb dX11_rateIn_45 (lv_at hl 4 rfl) ?_
  refine lv_iload_n hx hb dX11_rateIn_47 rfl (lv_at hl 3 rfl) ?_
  refine lv_iload hx hb dX11_rateIn_48 (lv_at hl 5 rfl) ?_
  refine x_runi hw (x_S (n := 2) (rest := [.int v4]) C hw (eX11_has hf) q1087 q1088 q53 q1089 rfl rfl (by decide +kernel) ⟨Nat.le_of_ble_eq_true rfl, Nat.le_of_ble_eq_true rfl⟩ rfl hl.1 rfl (Nat.le_of_ble_eq_true rfl) dX11_rateIn_50) (fun r6 σ5 H locs hf hw => ?_)
  have hzr6 := hf.2
  replace hf := hf.1
  try dsimp only at hf
  refine lv_if_ne (tgt := 60) hx hb dX11_rateIn_53 (by decide) (fun c7 => ?_) (fun c7 => ?_)
  · replace hf := hf.1 c7
    refine lv_aload_n hx hb dX11_rateIn_60 rfl (lv_at hl 1 rfl) ?_
    have hm_8 : (79, 0) ∈ L := hw.2.2.2.1 11 0 hm0 19 (by decide) (by decide) rfl
    refine x_get (v := .ref (lay 79 0)) (j := 19) C hw hm0 rfl (by decide) (by decide) rfl q899 dX11_rateIn_61 ?_
    refine lv_iload_n hx hb dX11_rateIn_64 rfl (lv_at hl 2 rfl) ?_
    refine x_iald C hw hm_8 (by decide) rfl hf.1 dX11_rateIn_65 ?_
    replace hf := hf.2
    refine lv_if_ne (tgt := 79) hx hb dX11_rateIn_66 (by decide) (fun c9 => ?_) (fun c9 => ?_)
    · replace hf := hf.1 c9
      refine lv_aload_n hx hb dX11_rateIn_79 rfl (lv_at hl 1 rfl) ?_
      have hm_10 : (75, 0) ∈ L := hw.2.2.2.1 11 0 hm0 15 (by decide) (by decide) rfl
      refine x_get (v := .ref (lay 75 0)) (j := 15) C hw hm0 rfl (by decide) (by decide) rfl q895 dX11_rateIn_80 ?_
      refine lv_iload hx hb dX11_rateIn_83 (lv_at hl 5 rfl) ?_
      refine x_iald C hw hm_10 (by decide) rfl hf.1 dX11_rateIn_85 ?_
      replace hf := hf.2
      exact eX11_rateIn_b86_8 C hret hm0 hKh hK95 σ5 (t1 + t0) v5 (sA σ5 75 0 (v5).toNatClampNeg) v4 _ _ _ hf hw (lv_sub hl [1, 2, 3, 0, 5] rfl)
    · replace hf := hf.2 c9
      refine lv_aload_n hx hb dX11_rateIn_69 rfl (lv_at hl 1 rfl) ?_
      have hm_11 : (74, 0) ∈ L := hw.2.2.2.1 11 0 hm0 14 (by decide) (by decide) rfl
      refine x_get (v := .ref (lay 74 0)) (j := 14) C hw hm0 rfl (by decide) (by decide) rfl q894 dX11_rateIn_70 ?_
      refine lv_iload hx hb dX11_rateIn_73 (lv_at hl 5 rfl) ?_
      refine x_iald C hw hm_11 (by decide) rfl hf.1 dX11_rateIn_75 ?_
      replace hf := hf.2
      refine lv_goto (tgt := 86) hx hb dX11_rateIn_76 (by decide) ?_
      exact eX11_rateIn_b86_8 C hret hm0 hKh hK95 σ5 (t1 + t0) v5 (sA σ5 74 0 (v5).toNatClampNeg) v4 _ _ _ hf hw (lv_sub hl [1, 2, 3, 0, 5] rfl)
  · replace hf := hf.2 c7
    refine lv_iconst (v := 0) hx hb dX11_rateIn_56 (by decide) ?_
    refine lv_goto (tgt := 86) hx hb dX11_rateIn_57 (by decide) ?_
    exact eX11_rateIn_b86_8 C hret hm0 hKh hK95 σ5 (t1 + t0) v5 (0 : Int32) v4 _ _ _ hf hw (lv_sub hl [1, 2, 3, 0, 5] rfl)
set_option maxHeartbeats 4000000 in
set_option maxRecDepth 100000 in
theorem eX11_rateIn_l8 {p : Program} {l : Launch} {e : Env} {s : State} {m : MethodId} {args : Array Value} {below : List Frame} {meth : Method} {c : Code} {E : EC} {lay : Nat → Nat → Nat} {L : List (Nat × Nat)} {A : Nat → Prop} (C : Cx p s m args c meth yX11_rateIn.cls cX11_rateIn 6 E A) (hret : meth.sig.returnType = some .int) {N : Nat} {a1 : Int32} {a2 : Int32} {Q : Int32 → St → Prop} {Kx95 : St → Int32 → Int32 → Prop} (hm0 : (11, 0) ∈ L) (hK95 : ∀ (σ : St) (w3 : Int32) (w4 : Int32) (H : Heap) (locs : List Loc) (ls : Array Slot), Kx95 σ w3 w4 → Wo E lay L A s σ H locs → lv_has ls 6 [(3, .int w3), (4, .int w4)] → W p l e rmX11_rateIn s m args below meth c H locs 0 0 (MQ below (va_Qi Q (Bd E lay L A) A) args s 0 0 A) (F0 m 95 ls [])) : ∀ (n : Nat) (σ : St) (v3 : Int32) (v4 : Int32) (v5 : Int32) (H : Heap) (locs : List Loc) (ls : Array Slot), fX11_rateIn_l8 N a1 a2 Q Kx95 n σ v3 v4 v5 → Wo E lay L A s σ H locs → lv_has ls 6 [(0, .ref (lay 11 0)), (1, .int a1), (2, .int a2), (3, .int v3), (4, .int v4), (5, .int v5)] → W p l e rmX11_rateIn s m args below meth c H locs 0 0 (MQ below (va_Qi Q (Bd E lay L A) A) args s 0 0 A) (F0 m 8 ls []) := by
  have hx := C.1
  have hb := C.2.1
  intro n
  induction n with
  | zero => intro σ v3 v4 v5 H locs ls hf; exact hf.elim
  | succ n ih =>
    intro σ v3 v4 v5 H locs ls hf hw hl
    rw [fX11_rateIn_l8] at hf
    refine lv_iload hx hb dX11_rateIn_8 (lv_at hl 5 rfl) ?_
    refine lv_aload_n hx hb dX11_rateIn_10 rfl (lv_at hl 0 rfl) ?_
    refine x_get (v := .int (sF σ 11 0 6)) (j := 6) C hw hm0 rfl (by decide) (by decide) rfl q886 dX11_rateIn_11 ?_
    refine lv_icmp_ge (tgt := 95) hx hb dX11_rateIn_14 (by decide) (fun c1 => ?_) (fun c1 => ?_)
    · replace hf := hf.1 c1
      exact hK95 σ v3 v4 _ _ _ hf hw (lv_sub hl [3, 4] rfl)
    · replace hf := hf.2 c1
      refine lv_iload_n hx hb dX11_rateIn_17 rfl (lv_at hl 3 rfl) ?_
      refine lv_iload_n hx hb dX11_rateIn_18 rfl (lv_at hl 2 rfl) ?_
      refine lv_iload hx hb dX11_rateIn_19 (lv_at hl 5 rfl) ?_
      refine x_runi hw (x_S (n := 2) (rest := [.int v3]) C hw (eX11_has hf) q1087 q1088 q53 q1089 rfl rfl (by decide +kernel) ⟨Nat.le_of_ble_eq_true rfl, Nat.le_of_ble_eq_true rfl⟩ rfl hl.1 rfl (Nat.le_of_ble_eq_true rfl) dX11_rateIn_21) (fun r3 σ2 H locs hf hw => ?_)
      have hzr3 := hf.2
      replace hf := hf.1
      try dsimp only at hf
      refine lv_if_eq (tgt := 42) hx hb dX11_rateIn_24 (by decide) (fun c4 => ?_) (fun c4 => ?_)
      · replace hf := hf.1 c4
        refine lv_iconst (v := 0) hx hb dX11_rateIn_42 (by decide) ?_
        exact eX11_rateIn_b43_8 C hret hm0 ih hK95 σ2 v4 v5 (0 : Int32) v3 _ _ _ hf hw (lv_sub hl [0, 1, 2, 4, 5] rfl)
      · replace hf := hf.2 c4
        refine lv_aload_n hx hb dX11_rateIn_27 rfl (lv_at hl 0 rfl) ?_
        have hm_12 : (83, 0) ∈ L := hw.2.2.2.1 11 0 hm0 23 (by decide) (by decide) rfl
        refine x_get (v := .ref (lay 83 0)) (j := 23) C hw hm0 rfl (by decide) (by decide) rfl q903 dX11_rateIn_28 ?_
        refine lv_bipush (v := 12) hx hb dX11_rateIn_31 (by decide) ?_
        refine lv_iload hx hb dX11_rateIn_33 (lv_at hl 5 rfl) ?_
        refine lv_imul hx hb dX11_rateIn_35 ?_
        refine lv_iload_n hx hb dX11_rateIn_36 rfl (lv_at hl 1 rfl) ?_
        refine lv_iadd hx hb dX11_rateIn_37 ?_
        refine x_iald C hw hm_12 (by decide) rfl hf.1 dX11_rateIn_38 ?_
        replace hf := hf.2
        refine lv_goto (tgt := 43) hx hb dX11_rateIn_39 (by decide) ?_
        exact eX11_rateIn_b43_8 C hret hm0 ih hK95 σ2 v4 v5 (sA σ2 83 0 ((((12 : Int32) * v5) + a1)).toNatClampNeg) v3 _ _ _ hf hw (lv_sub hl [0, 1, 2, 4, 5] rfl)
def fX11_rateIn (N : Nat) (σ : St) (a1 : Int32) (a2 : Int32) (Q : Int32 → St → Prop) : Prop := fX11_rateIn_l8 N a1 a2 Q (fun (σ13 : St) (u95_3 : Int32) (u95_4 : Int32) => ((¬ u95_4 = 0 → (¬ u95_4 = 0 ∧ Q (((1000 : Int32) * u95_3) / u95_4) σ13)) ∧ (u95_4 = 0 → Q (0 : Int32) σ13))) N σ (0 : Int32) (0 : Int32) (0 : Int32)
set_option maxHeartbeats 4000000 in
set_option maxRecDepth 100000 in
theorem eX11_rateIn {l : Launch} {E : EC} {lay : Nat → Nat → Nat} {L : List (Nat × Nat)} {A : Nat → Prop} {N : Nat} {σ : St} {a1 : Int32} {a2 : Int32} {Q : Int32 → St → Prop} (hf : fX11_rateIn N σ a1 a2 Q) (hm0 : (11, 0) ∈ L) : Met l yX11_rateIn (.code yX11_rateIn cX11_rateIn 6 (some .int) :: big) rmX11_rateIn (va_Pc [.ref (lay 11 0), .int a1, .int a2] (Bp E lay L A σ)) (va_Qi Q (Bd E lay L A) A) 0 0 A := by
  refine x_met (by decide +kernel) (Nat.le_of_ble_eq_true rfl) ?_
  intro p e s m args below meth c ls C hret hw hl
  have hx := C.1
  have hb := C.2.1
  have hl : lv_has ls 6 [(0, .ref (lay 11 0)), (1, .int a1), (2, .int a2)] := hl
  unfold fX11_rateIn at hf
  refine lv_iconst (v := 0) hx hb dX11_rateIn_0 (by decide) ?_
  refine lv_istore_n (lv' := [(3, .int (0 : Int32)), (0, .ref (lay 11 0)), (1, .int a1), (2, .int a2)]) hx hb dX11_rateIn_1 rfl hl (by decide) rfl (fun ls hl => ?_)
  refine lv_iconst (v := 0) hx hb dX11_rateIn_2 (by decide) ?_
  refine lv_istore (lv' := [(4, .int (0 : Int32)), (3, .int (0 : Int32)), (0, .ref (lay 11 0)), (1, .int a1), (2, .int a2)]) hx hb dX11_rateIn_3 hl (by decide) rfl (fun ls hl => ?_)
  refine lv_iconst (v := 0) hx hb dX11_rateIn_5 (by decide) ?_
  refine lv_istore (lv' := [(5, .int (0 : Int32)), (4, .int (0 : Int32)), (3, .int (0 : Int32)), (0, .ref (lay 11 0)), (1, .int a1), (2, .int a2)]) hx hb dX11_rateIn_6 hl (by decide) rfl (fun ls hl => ?_)
  refine eX11_rateIn_l8 C hret hm0 ?_ N σ (0 : Int32) (0 : Int32) (0 : Int32) _ _ _ hf hw (lv_sub hl [3, 4, 5, 2, 1, 0] rfl)
  · intro σ13 u95_3 u95_4 H locs ls hf hw hl
    refine lv_iload hx hb dX11_rateIn_95 (lv_at hl 1 rfl) ?_
    refine lv_if_ne (tgt := 104) hx hb dX11_rateIn_97 (by decide) (fun c14 => ?_) (fun c14 => ?_)
    · replace hf := hf.1 c14
      refine lv_sipush (v := 1000) hx hb dX11_rateIn_104 (by decide) ?_
      refine lv_iload_n hx hb dX11_rateIn_107 rfl (lv_at hl 0 rfl) ?_
      refine lv_imul hx hb dX11_rateIn_108 ?_
      refine lv_iload hx hb dX11_rateIn_109 (lv_at hl 1 rfl) ?_
      refine lv_idiv hx hb dX11_rateIn_111 hf.1 ?_
      replace hf := hf.2
      exact x_iret C hret hw hf dX11_rateIn_112
    · replace hf := hf.2 c14
      refine lv_iconst (v := 0) hx hb dX11_rateIn_100 (by decide) ?_
      refine lv_goto (tgt := 112) hx hb dX11_rateIn_101 (by decide) ?_
      exact x_iret C hret hw hf dX11_rateIn_112
-- X11_isFeature
abbrev rmX11_isFeature : Room := { frames := 1, cells := 0, slots := 0, locals := 22 }
def fX11_isFeature (N : Nat) (σ : St) (a1 : Int32) (Q : Int32 → St → Prop) : Prop := fX11_in N σ a1 (0 : Int32) ((sF σ 11 0 18) - (1 : Int32)) (fun (r2 : Int32) (σ1 : St) => Q r2 σ1)
set_option maxHeartbeats 4000000 in
set_option maxRecDepth 100000 in
theorem eX11_isFeature {l : Launch} {E : EC} {lay : Nat → Nat → Nat} {L : List (Nat × Nat)} {A : Nat → Prop} {N : Nat} {σ : St} {a1 : Int32} {Q : Int32 → St → Prop} (hf : fX11_isFeature N σ a1 Q) (hm0 : (11, 0) ∈ L) : Met l yX11_isFeature (.code yX11_isFeature cX11_isFeature 2 (some .boolean) :: big) rmX11_isFeature (va_Pc [.ref (lay 11 0), .int a1] (Bp E lay L A σ)) (va_Qi (fun r u => Q r u ∧ narrow .boolean (.int r) = .int r) (Bd E lay L A) A) 0 0 A := by
  refine x_met (by decide +kernel) (Nat.le_of_ble_eq_true rfl) ?_
  intro p e s m args below meth c ls C hret hw hl
  have hx := C.1
  have hb := C.2.1
  have hl : lv_has ls 2 [(0, .ref (lay 11 0)), (1, .int a1)] := hl
  unfold fX11_isFeature at hf
  refine lv_iload_n hx hb dX11_isFeature_0 rfl (lv_at hl 1 rfl) ?_
  refine lv_iconst (v := 0) hx hb dX11_isFeature_1 (by decide) ?_
  refine lv_aload_n hx hb dX11_isFeature_2 rfl (lv_at hl 0 rfl) ?_
  refine x_get (v := .int (sF σ 11 0 18)) (j := 18) C hw hm0 rfl (by decide) (by decide) rfl q898 dX11_isFeature_3 ?_
  refine lv_iconst (v := 1) hx hb dX11_isFeature_6 (by decide) ?_
  refine lv_isub hx hb dX11_isFeature_7 ?_
  refine x_runi hw (x_S (n := 3) (rest := []) C hw (eX11_in hf) q984 q985 q53 q986 rfl rfl (by decide +kernel) ⟨Nat.le_of_ble_eq_true rfl, Nat.le_of_ble_eq_true rfl⟩ rfl hl.1 rfl (Nat.le_of_ble_eq_true rfl) dX11_isFeature_8) (fun r2 σ1 H locs hf hw => ?_)
  have hzr2 := hf.2
  replace hf := hf.1
  try dsimp only at hf
  exact x_zret C hret hzr2 hw ⟨hf, hzr2⟩ dX11_isFeature_11
-- X11_askedFor
abbrev rmX11_askedFor : Room := { frames := 2, cells := 0, slots := 0, locals := 43 }
def fX11_askedFor (N : Nat) (σ : St) (a1 : Int32) (Q : Int32 → St → Prop) : Prop := fX11_isText N σ a1 (fun (r2 : Int32) (σ1 : St) => ((¬ r2 = 0 → (vp_in a1 15 ∧ (((sA σ1 70 0 (a1).toNatClampNeg) = 0 → Q (0 : Int32) σ1) ∧ (¬ (sA σ1 70 0 (a1).toNatClampNeg) = 0 → fX11_meets N σ1 (1 : Int32) (fun (r7 : Int32) (σ6 : St) => Q r7 σ6))))) ∧ (r2 = 0 → Q (-1 : Int32) σ1)))
set_option maxHeartbeats 4000000 in
set_option maxRecDepth 100000 in
theorem eX11_askedFor {l : Launch} {E : EC} {lay : Nat → Nat → Nat} {L : List (Nat × Nat)} {A : Nat → Prop} {N : Nat} {σ : St} {a1 : Int32} {Q : Int32 → St → Prop} (hf : fX11_askedFor N σ a1 Q) (hm0 : (11, 0) ∈ L) : Met l yX11_askedFor (.code yX11_askedFor cX11_askedFor 2 (some .int) :: big) rmX11_askedFor (va_Pc [.ref (lay 11 0), .int a1] (Bp E lay L A σ)) (va_Qi Q (Bd E lay L A) A) 0 0 A := by
  refine x_met (by decide +kernel) (Nat.le_of_ble_eq_true rfl) ?_
  intro p e s m args below meth c ls C hret hw hl
  have hx := C.1
  have hb := C.2.1
  have hl : lv_has ls 2 [(0, .ref (lay 11 0)), (1, .int a1)] := hl
  unfold fX11_askedFor at hf
  refine lv_aload_n hx hb dX11_askedFor_0 rfl (lv_at hl 0 rfl) ?_
  refine lv_iload_n hx hb dX11_askedFor_1 rfl (lv_at hl 1 rfl) ?_
  refine x_runi hw (x_V (n := 1) (rest := []) C hw hm0 (by decide) (eX11_isText hf hm0) q1028 q1030 q25 q53 q1031 rfl rfl (by decide +kernel) ⟨Nat.le_of_ble_eq_true rfl, Nat.le_of_ble_eq_true rfl⟩ rfl hl.1 rfl (Nat.le_of_ble_eq_true rfl) dX11_askedFor_2) (fun r2 σ1 H locs hf hw => ?_)
  have hzr2 := hf.2
  replace hf := hf.1
  try dsimp only at hf
  refine lv_if_ne (tgt := 12) hx hb dX11_askedFor_5 (by decide) (fun c3 => ?_) (fun c3 => ?_)
  · replace hf := hf.1 c3
    refine lv_aload_n hx hb dX11_askedFor_12 rfl (lv_at hl 0 rfl) ?_
    have hm_4 : (70, 0) ∈ L := hw.2.2.2.1 11 0 hm0 10 (by decide) (by decide) rfl
    refine x_get (v := .ref (lay 70 0)) (j := 10) C hw hm0 rfl (by decide) (by decide) rfl q890 dX11_askedFor_13 ?_
    refine lv_iload_n hx hb dX11_askedFor_16 rfl (lv_at hl 1 rfl) ?_
    refine x_zald C hw hm_4 (by decide) rfl hf.1 dX11_askedFor_17 ?_
    replace hf := hf.2
    refine lv_if_eq (tgt := 29) hx hb dX11_askedFor_18 (by decide) (fun c5 => ?_) (fun c5 => ?_)
    · replace hf := hf.1 c5
      refine lv_iconst (v := 0) hx hb dX11_askedFor_29 (by decide) ?_
      exact x_iret C hret hw hf dX11_askedFor_30
    · replace hf := hf.2 c5
      refine lv_aload_n hx hb dX11_askedFor_21 rfl (lv_at hl 0 rfl) ?_
      refine lv_iconst (v := 1) hx hb dX11_askedFor_22 (by decide) ?_
      refine x_runi hw (x_V (n := 1) (rest := []) C hw hm0 (by decide) (eX11_meets hf hm0) q987 q989 q22 q53 q990 rfl rfl (by decide +kernel) ⟨Nat.le_of_ble_eq_true rfl, Nat.le_of_ble_eq_true rfl⟩ rfl hl.1 rfl (Nat.le_of_ble_eq_true rfl) dX11_askedFor_23) (fun r7 σ6 H locs hf hw => ?_)
      try dsimp only at hf
      refine lv_goto (tgt := 30) hx hb dX11_askedFor_26 (by decide) ?_
      exact x_iret C hret hw hf dX11_askedFor_30
  · replace hf := hf.2 c3
    refine lv_iconst (v := (-1)) hx hb dX11_askedFor_8 (by decide) ?_
    refine lv_goto (tgt := 30) hx hb dX11_askedFor_9 (by decide) ?_
    exact x_iret C hret hw hf dX11_askedFor_30
-- X11_counts
abbrev rmX11_counts : Room := { frames := 3, cells := 0, slots := 0, locals := 77 }
def fX11_counts (N : Nat) (σ : St) (a1 : Int32) (a2 : Int32) (Q : Int32 → St → Prop) : Prop := fX11_isFeature N σ a1 (fun (r2 : Int32) (σ1 : St) => ((¬ r2 = 0 → fX11_askedFor N σ1 a2 (fun (r5 : Int32) (σ4 : St) => ((0 ≤ r5 → fX11_countOf N σ4 a1 a2 (fun (r8 : Int32) (σ7 : St) => Q r8 σ7)) ∧ (¬ 0 ≤ r5 → Q r5 σ4)))) ∧ (r2 = 0 → Q (-1 : Int32) σ1)))
set_option maxHeartbeats 4000000 in
set_option maxRecDepth 100000 in
theorem eX11_counts {l : Launch} {E : EC} {lay : Nat → Nat → Nat} {L : List (Nat × Nat)} {A : Nat → Prop} {N : Nat} {σ : St} {a1 : Int32} {a2 : Int32} {Q : Int32 → St → Prop} (hf : fX11_counts N σ a1 a2 Q) (hm0 : (11, 0) ∈ L) : Met l yX11_counts (.code yX11_counts cX11_counts 4 (some .int) :: big) rmX11_counts (va_Pc [.ref (lay 11 0), .int a1, .int a2] (Bp E lay L A σ)) (va_Qi Q (Bd E lay L A) A) 0 0 A := by
  refine x_met (by decide +kernel) (Nat.le_of_ble_eq_true rfl) ?_
  intro p e s m args below meth c ls C hret hw hl
  have hx := C.1
  have hb := C.2.1
  have hl : lv_has ls 4 [(0, .ref (lay 11 0)), (1, .int a1), (2, .int a2)] := hl
  unfold fX11_counts at hf
  refine lv_aload_n hx hb dX11_counts_0 rfl (lv_at hl 0 rfl) ?_
  refine lv_iload_n hx hb dX11_counts_1 rfl (lv_at hl 1 rfl) ?_
  refine x_runi hw (x_V (n := 1) (rest := []) C hw hm0 (by decide) (eX11_isFeature hf hm0) q1055 q1057 q27 q53 q1058 rfl rfl (by decide +kernel) ⟨Nat.le_of_ble_eq_true rfl, Nat.le_of_ble_eq_true rfl⟩ rfl hl.1 rfl (Nat.le_of_ble_eq_true rfl) dX11_counts_2) (fun r2 σ1 H locs hf hw => ?_)
  have hzr2 := hf.2
  replace hf := hf.1
  try dsimp only at hf
  refine lv_if_ne (tgt := 10) hx hb dX11_counts_5 (by decide) (fun c3 => ?_) (fun c3 => ?_)
  · replace hf := hf.1 c3
    refine lv_aload_n hx hb dX11_counts_10 rfl (lv_at hl 0 rfl) ?_
    refine lv_iload_n hx hb dX11_counts_11 rfl (lv_at hl 2 rfl) ?_
    refine x_runi hw (x_V (n := 1) (rest := []) C hw hm0 (by decide) (eX11_askedFor hf hm0) q1059 q1061 q28 q53 q1062 rfl rfl (by decide +kernel) ⟨Nat.le_of_ble_eq_true rfl, Nat.le_of_ble_eq_true rfl⟩ rfl hl.1 rfl (Nat.le_of_ble_eq_true rfl) dX11_counts_12) (fun r5 σ4 H locs hf hw => ?_)
    try dsimp only at hf
    refine lv_istore_n (lv' := [(3, .int r5), (0, .ref (lay 11 0)), (1, .int a1), (2, .int a2)]) hx hb dX11_counts_15 rfl hl (by decide) rfl (fun ls hl => ?_)
    refine lv_iload_n hx hb dX11_counts_16 rfl (lv_at hl 0 rfl) ?_
    refine lv_if_ge (tgt := 24) hx hb dX11_counts_17 (by decide) (fun c6 => ?_) (fun c6 => ?_)
    · replace hf := hf.1 c6
      refine lv_aload_n hx hb dX11_counts_24 rfl (lv_at hl 1 rfl) ?_
      refine lv_iload_n hx hb dX11_counts_25 rfl (lv_at hl 2 rfl) ?_
      refine lv_iload_n hx hb dX11_counts_26 rfl (lv_at hl 3 rfl) ?_
      refine x_runi hw (x_V (n := 2) (rest := []) C hw hm0 (by decide) (eX11_countOf hf hm0) q1063 q1065 q29 q53 q1066 rfl rfl (by decide +kernel) ⟨Nat.le_of_ble_eq_true rfl, Nat.le_of_ble_eq_true rfl⟩ rfl hl.1 rfl (Nat.le_of_ble_eq_true rfl) dX11_counts_27) (fun r8 σ7 H locs hf hw => ?_)
      try dsimp only at hf
      exact x_iret C hret hw hf dX11_counts_30
    · replace hf := hf.2 c6
      refine lv_iload_n hx hb dX11_counts_20 rfl (lv_at hl 0 rfl) ?_
      refine lv_goto (tgt := 30) hx hb dX11_counts_21 (by decide) ?_
      exact x_iret C hret hw hf dX11_counts_30
  · replace hf := hf.2 c3
    refine lv_iconst (v := (-1)) hx hb dX11_counts_8 (by decide) ?_
    exact x_iret C hret hw hf dX11_counts_9
