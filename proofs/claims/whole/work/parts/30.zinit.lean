-- ===== constructors: worlds as lists, the addresses of what is made as a function =====
def va_AOA (ty : FieldType) (U : State) : Prop := (Cond.arrayOver (.array ty)).before #[] U = true
theorem va_AOA.use {ty : FieldType} {A : Array Value} {U : State} (h : va_AOA ty U) : (Cond.arrayOver (.array ty)).before A U = true := h
theorem va_AOA.moved {ty : FieldType} {u U : State} (hvm : u.vm.Alike U.vm) (h : va_AOA ty u) : va_AOA ty U := by
  have e := Cond.arrayOver_setVmC (args := #[]) (s := u) (vm' := U.vm) hvm (.array ty)
  exact (show (Cond.arrayOver (.array ty)).before #[] (u.setVm U.vm) = true from e.trans h)
/-! ===== BEGIN new T[n][m]: the outer array a place, the inner ones among the pooled ===== -/
/-- f, but v at every address of l -/
def vr_up {α : Type} (f : Nat → α) (l : List Nat) (v : α) : Nat → α := fun a => if a ∈ l then v else f a
theorem vr_up_in {α : Type} {f : Nat → α} {l : List Nat} {v : α} {a : Nat} (h : a ∈ l) : vr_up f l v a = v := if_pos h
theorem vr_up_ne {α : Type} {f : Nat → α} {l : List Nat} {v : α} {a : Nat} (h : a ∉ l) : vr_up f l v a = f a := if_neg h
theorem vr_rows {L l : List Nat} {f : Nat → va_E} {e : va_E} (h : ∀ a, a ∈ l → a ∉ L) : va_pl L f ++ l.map (fun a => (a, e)) = va_pl (L ++ l) (vr_up f l e) := by
  unfold va_pl
  rw [List.map_append]
  congr 1
  · apply List.map_congr_left
    intro a ha
    rw [vr_up_ne (fun q => h a q ha)]
  · apply List.map_congr_left
    intro a ha
    rw [vr_up_in ha]
theorem vr_lay {X rows : va_W} {x : Nat × va_E} {pl : va_W} {D : va_G} {cl : List vw_C} {H : Heap} (hP : va_P D cl (((X ++ pl) ++ [x]) ++ rows) H) : va_P D cl ((X ++ [x]) ++ (pl ++ rows)) H := by
  rw [List.append_assoc (X ++ pl)] at hP
  have h := va_P.swap hP
  rw [← List.append_assoc X] at h
  have h2 := va_P.swap h
  rw [List.append_assoc (X ++ [x])] at h2
  exact h2
theorem vr_layD {X rows : va_W} {x : Nat × va_E} {pl : va_W} {A : Nat → Prop} (hD : va_D A (((X ++ pl) ++ [x]) ++ rows)) : va_D A ((X ++ [x]) ++ (pl ++ rows)) := by
  rw [List.append_assoc (X ++ pl)] at hD
  have h := va_D.swap hD
  rw [← List.append_assoc X] at h
  have h2 := va_D.swap h
  rw [List.append_assoc (X ++ [x])] at h2
  exact h2
theorem vr_outer (c : ClassId) (N h0 : Nat) : ∀ i : Nat, Jvm.Free.Multi.outerC c N h0 i = arrV c N (fun j => va_rf (if j < i then some (h0 + 1 + j) else none))
  | 0 => by
    show ({ cls := c, slots := Array.replicate N .null, vm := .none } : Cell) = _
    rw [arrV_new]
    refine congrArg (arrV c N) (funext fun j => ?_)
    simp [va_rf]
  | i + 1 => by
    show (Jvm.Free.Multi.outerC c N h0 i).setSlot i (.ref (h0 + 1 + i)) = _
    rw [vr_outer c N h0 i, arrV_store]
    refine congrArg (arrV c N) (funext fun j => ?_)
    by_cases e : j = i
    · subst e
      simp [updV, va_rf]
    · by_cases h : j < i
      · simp [updV, e, h, Nat.lt_succ_of_lt h]
      · simp [updV, e, h, show ¬ j < i + 1 by omega]
section VGM
variable {p : Program} {l : Launch} {e : Env} {R : Room} {s : State} {m : MethodId} {args : Array Value} {below : List Frame} {meth : Method} {c : Code} {H : Heap} {locs : List Loc} {cells slots : Nat} {Q : State → Prop}
variable {cc : ByteArray} {pc : Nat} {ls : Array Slot} {rest : List Value} {D : va_G} {cl : List vw_C} {A : Nat → Prop} {a : Nat} {tys : List (ClassId × FieldType)} {ws : va_W} {H0 : Heap}
theorem va_mna {X : va_W} {L : List Nat} {f : Nat → va_E} {cc : ByteArray} (hexec : p.tables.exec = Jvm.exec) (hb : c.code = cc) {own : String} {index : Nat} {ty : FieldType} {cy : ClassId} (hown : s.vm.findClass own = some m.cls) (hclink : (Cond.classLink own index ("[" ++ (FieldType.array ty).toString)).before args s = true) (hover : va_AOA ty s) (harr : (Cond.arrayClass ty).before args s = true) (hcy : s.vm.findClass (FieldType.array ty).toString = some cy)
    (hK : va_K D cl tys s) (hP : va_P D cl (X ++ va_pl L f) H) (hD : va_D A (X ++ va_pl L f)) (hS : va_S A H0 H locs) (hA : ∀ q, H0.size ≤ q → A q) {n k : Int32} {N' K' : Nat} {z : vp_A} (hn : ¬ n < 0) (hk : ¬ k < 0) (hN : n.toNatClampNeg = N') (hM : k.toNatClampNeg = K')
    (hb1 : N' * 4 ≤ 536870912) (hb2 : K' * componentBytes ty ≤ 536870912) (hb3 : K' ≤ 536870912) (hdf : fits ty (defaultValue ty) = true) (hdd : (defaultValue ty).isDefault = true) (hcells : cells + (1 + N') ≤ R.cells) (hslots : slots + (N' + N' * K') ≤ R.slots) (hz : ∀ c : ClassId, Jvm.Free.Multi.innerC c K' (defaultValue ty) = vp_cell c z) (hdg : decode cc pc = .ok (.multianewarray index 2, 4))
    (kk : ∀ (q : Nat) (r : Nat → Nat) (cA : ClassId) (H1 : Heap), (∀ i j : Nat, i < N' → j < N' → r i = r j → i = j) → (∀ i : Nat, i < N' → r i ∉ L) → va_K D cl (tys ++ [(cA, .array ty)]) s →
      va_P D cl ((X ++ [(q, .inl (cA, N', .inr (.inr (.inr (.inr (fun i => if i < N' then some (r i) else none))))))]) ++ va_pl (L ++ (List.range N').map r) (vr_up f ((List.range N').map r) (.inl (cy, z)))) H1 → va_D A ((X ++ [(q, .inl (cA, N', .inr (.inr (.inr (.inr (fun i => if i < N' then some (r i) else none))))))]) ++ va_pl (L ++ (List.range N').map r) (vr_up f ((List.range N').map r) (.inl (cy, z)))) → va_S A H0 H1 locs →
      W p l e R s m args below meth c H1 locs (cells + 1 + N') (slots + N' + N' * K') Q (F0 m (pc + 4) ls (.ref q :: rest))) : W p l e R s m args below meth c H locs cells slots Q (F0 m pc ls (.int k :: .int n :: rest)) := by
  subst hN
  subst hM
  intro T hT Xs
  obtain ⟨vm₁, cA, comp, -, fA, fC, hO, -, X', step⟩ := Xs.multianewarray2F hexec hown hclink (va_AOA.use hover) harr (g := F0 m pc ls (.int k :: .int n :: rest)) rfl (by rw [hb]; exact hdg) rfl hn hk hb1 hb2 hb3 hdf hdd hcells hslots
  have ec : some cy = some comp := hcy.symm.trans fC
  cases ec
  generalize hF : Jvm.Free.Multi.fill (T.setVm vm₁) cA cy n.toNatClampNeg k.toNatClampNeg (defaultValue ty) n.toNatClampNeg = F at X' step
  have hTh : (T.setVm vm₁).heap = H := hT
  obtain ⟨f1, f2, -, -⟩ := Jvm.Free.Multi.fill_facts (T.setVm vm₁) cA cy n.toNatClampNeg k.toNatClampNeg (defaultValue ty) n.toNatClampNeg
  rw [hF, hTh] at f1 f2
  have hold : ∀ x : Nat, x < H.size → F.heap[x]? = H[x]? := fun x hx => by
    have := Jvm.Free.Multi.fill_old (T.setVm vm₁) cA cy n.toNatClampNeg k.toNatClampNeg (defaultValue ty) (a := x) (by rw [hTh]; exact hx) n.toNatClampNeg
    rw [hF, hTh] at this
    exact this
  have hrow : ∀ j : Nat, j < n.toNatClampNeg → F.heap[H.size + 1 + j]? = some (vp_cell cy z) := fun j hj => by
    have := Jvm.Free.Multi.fill_inner (T.setVm vm₁) cA cy n.toNatClampNeg k.toNatClampNeg (defaultValue ty) n.toNatClampNeg j hj
    rw [hF, hTh, hz] at this
    exact this
  have hout : Jvm.Free.Multi.outerC cA n.toNatClampNeg H.size n.toNatClampNeg = vp_cell cA (n.toNatClampNeg, .inr (.inr (.inr (.inr (fun i => if i < n.toNatClampNeg then some (H.size + 1 + i) else none))))) := by
    rw [vp_cell_q]
    exact vr_outer cA n.toNatClampNeg H.size n.toNatClampNeg
  rw [hout] at f2
  have hlt : ∀ a, a ∈ L → a < H.size := fun a ha => by
    obtain ⟨k9, hk9⟩ := va_pl_get (X := X) (f := f) ha
    exact (hP k9 _ hk9).lt
  have hnl : ∀ i : Nat, i < n.toNatClampNeg → H.size + 1 + i ∉ L := fun i _ h => by
    have := hlt _ h
    omega
  have hnm : ∀ a, a ∈ (List.range n.toNatClampNeg).map (fun i => H.size + 1 + i) → a ∉ L := fun a ha h => by
    obtain ⟨i, -, rfl⟩ := List.mem_map.mp ha
    have := hlt _ h
    omega
  have hP0 : va_P D cl (X ++ va_pl L f) F.heap := hP.kept (fun k9 x hx => hold x.1 ((hP k9 x hx).lt))
  have hP1 : va_P D cl ((X ++ va_pl L f) ++ [(H.size, .inl (cA, n.toNatClampNeg, .inr (.inr (.inr (.inr (fun i => if i < n.toNatClampNeg then some (H.size + 1 + i) else none))))))]) F.heap := hP0.app (fun k9 x hx => by
    have h0 : k9 < 1 := (List.getElem?_eq_some_iff.mp hx).1
    rw [show k9 = 0 by omega] at hx
    cases hx
    exact f2)
  have hP2 : va_P D cl (((X ++ va_pl L f) ++ [(H.size, .inl (cA, n.toNatClampNeg, .inr (.inr (.inr (.inr (fun i => if i < n.toNatClampNeg then some (H.size + 1 + i) else none))))))]) ++ ((List.range n.toNatClampNeg).map (fun i => H.size + 1 + i)).map (fun a => (a, .inl (cy, z)))) F.heap := hP1.app (fun k9 x hx => by
    obtain ⟨a, ha, rfl⟩ := List.mem_map.mp (List.mem_of_getElem? hx)
    obtain ⟨i, hi, rfl⟩ := List.mem_map.mp ha
    exact hrow i (List.mem_range.mp hi))
  have hD2 : va_D A (((X ++ va_pl L f) ++ [(H.size, .inl (cA, n.toNatClampNeg, .inr (.inr (.inr (.inr (fun i => if i < n.toNatClampNeg then some (H.size + 1 + i) else none))))))]) ++ ((List.range n.toNatClampNeg).map (fun i => H.size + 1 + i)).map (fun a => (a, .inl (cy, z)))) := by
    have hD1 := hD.push (e := .inl (cA, n.toNatClampNeg, .inr (.inr (.inr (.inr (fun i => if i < n.toNatClampNeg then some (H.size + 1 + i) else none)))))) hP rfl (hA _ hS.1)
    generalize hW1 : (X ++ va_pl L f) ++ [(H.size, .inl (cA, n.toNatClampNeg, .inr (.inr (.inr (.inr (fun i => if i < n.toNatClampNeg then some (H.size + 1 + i) else none))))))] = W1 at hD1 hP1 ⊢
    have hle : ∀ (k9 : Nat) (x : Nat × va_E), W1[k9]? = some x → x.1 ≤ H.size := fun k9 x hx => by
      rw [← hW1] at hx
      by_cases hl : k9 < (X ++ va_pl L f).length
      · rw [List.getElem?_append_left hl] at hx
        exact Nat.le_of_lt ((hP k9 x hx).lt)
      · rw [List.getElem?_append_right (by omega)] at hx
        have h0 : k9 - (X ++ va_pl L f).length < 1 := (List.getElem?_eq_some_iff.mp hx).1
        rw [show k9 - (X ++ va_pl L f).length = 0 by omega] at hx
        cases hx
        exact Nat.le_refl _
    have hr : ∀ (k9 : Nat) (x : Nat × va_E), (((List.range n.toNatClampNeg).map (fun i => H.size + 1 + i)).map (fun a => ((a, .inl (cy, z)) : Nat × va_E)))[k9]? = some x → x.1 = H.size + 1 + k9 := fun k9 x hx => by
      rw [List.getElem?_map, List.getElem?_map] at hx
      by_cases h9 : k9 < n.toNatClampNeg
      · rw [List.getElem?_range h9] at hx
        cases hx
        rfl
      · have hn0 : (List.range n.toNatClampNeg)[k9]? = none := List.getElem?_eq_none (by rw [List.length_range]; omega)
        rw [hn0] at hx
        cases hx
    refine ⟨fun i j x y hi hj hxy => ?_, fun k9 x hx => ?_⟩
    · by_cases h1 : i < W1.length <;> by_cases h2 : j < W1.length
      · rw [List.getElem?_append_left h1] at hi
        rw [List.getElem?_append_left h2] at hj
        exact hD1.1 i j x y hi hj hxy
      · rw [List.getElem?_append_left h1] at hi
        rw [List.getElem?_append_right (by omega)] at hj
        have := hle _ _ hi
        have := hr _ _ hj
        omega
      · rw [List.getElem?_append_right (by omega)] at hi
        rw [List.getElem?_append_left h2] at hj
        have := hle _ _ hj
        have := hr _ _ hi
        omega
      · rw [List.getElem?_append_right (by omega)] at hi hj
        have := hr _ _ hi
        have := hr _ _ hj
        omega
    · by_cases h1 : k9 < W1.length
      · rw [List.getElem?_append_left h1] at hx
        exact hD1.2 k9 x hx
      · rw [List.getElem?_append_right (by omega)] at hx
        have := hr _ _ hx
        exact hA _ (by have := hS.1; omega)
  have hAr : ArrOfT s cA (.array ty) := fun N9 z9 => by
    obtain ⟨-, k9, hk9, cm9, hkk9⟩ := (hO 0 0 0).1
    exact ⟨(fun q hq => by cases hq), k9, hk9, cm9, hkk9⟩
  have hK2 : va_K D cl (tys ++ [(cA, .array ty)]) s := ⟨hK.1, fun k9 x hx => by
    by_cases hl : k9 < tys.length
    · rw [List.getElem?_append_left hl] at hx
      exact hK.2 k9 x hx
    · rw [List.getElem?_append_right (by omega)] at hx
      have h0 : k9 - tys.length < 1 := (List.getElem?_eq_some_iff.mp hx).1
      rw [show k9 - tys.length = 0 by omega] at hx
      cases hx
      exact ⟨hAr, fA⟩⟩
  obtain ⟨t, a1, b1⟩ := kk H.size (fun i => H.size + 1 + i) cA F.heap (fun i j _ _ h => by have h9 : H.size + 1 + i = H.size + 1 + j := h; omega) hnl hK2 (by rw [← vr_rows hnm]; exact vr_lay hP2) (by rw [← vr_rows hnm]; exact vr_layD hD2) ⟨by rw [f1]; have := hS.1; omega, fun x h1 h2 => (hold x (Nat.lt_of_lt_of_le h1 hS.1)).trans (hS.2.1 x h1 h2), hS.2.2⟩ F rfl X'
  refine ⟨t, step t ?_, b1⟩
  have e : T.heap.size = H.size := by rw [hT]
  rw [e]
  exact a1
end VGM
/-! ===== END ===== -/

def Aos (U : State) : Prop := va_AO "WhoseHand$Sheet" U ∧ va_AO "WhoseHand$Text" U ∧ va_AO "WhoseHand$Feature" U ∧ va_AO "WhoseHand$Tally" U ∧ va_AOA .int U
theorem Aos.moved {u U : State} (hvm : u.vm.Alike U.vm) (h : Aos u) : Aos U := ⟨h.1.moved hvm, h.2.1.moved hvm, h.2.2.1.moved hvm, h.2.2.2.1.moved hvm, h.2.2.2.2.moved hvm⟩
def Ip (E : EC) (sz : Nat) (w : va_W) (U : State) : Prop := U.heap.size = sz ∧ Aos U ∧ Nst U ∧ va_P E.1 cls w U.heap ∧ va_K E.1 cls (tysOf E.2) U ∧ va_D (fun _ => True) w
theorem Ip_blind {E : EC} {sz : Nat} {w : va_W} {As : List Value} : FrameBlind (va_Pc As (Ip E sz w)) := by
  intro a U g mk q
  obtain ⟨q0, q1, qA, qN, qP, qK, qD⟩ := q
  exact ⟨q0, q1, Aos.moved (u := U) (U := U.calling g mk a) (Vm.Alike.refl U.vm) qA, Nst.same (s := U) (U := U.calling g mk a) rfl qN, qP, va_K.moved (u := U) (U := U.calling g mk a) (Vm.Alike.refl U.vm) qK, qD⟩
def Iq (E : EC) (w : (Nat → Nat) → va_W) (A : Nat → Prop) (t : State) : Prop := ∃ x : Nat → Nat, va_P E.1 cls (w x) t.heap ∧ va_D A (w x)
def Ix (p : Program) (s : State) (m : MethodId) (args : Array Value) (c : Code) (meth : Method) (own : String) (cc : ByteArray) (nL : Nat) (E : EC) : Prop :=
  p.tables.exec = Jvm.exec ∧ c.code = cc ∧ c.maxLocals = nL ∧ s.vm.findClass own = some m.cls ∧ (∀ w ∈ big, w.before args s = true) ∧ va_K E.1 cls (tysOf E.2) s ∧ Aos s ∧ Nst s ∧ meth.locks = false
theorem ca_last {E : EC} {cA : ClassId} {ty : FieldType} {s : State} (hK : va_K E.1 cls (tysOf E.2 ++ [(cA, ty)]) s) : va_RA s cA ty := (hK.2 9 (cA, ty) (by simp [tysOf])).2
theorem ra_eq {s : State} {a b : ClassId} {ty : FieldType} (h1 : va_RA s a ty) (h2 : va_RA s b ty) : a = b := by
  cases ty with
  | object C =>
    obtain ⟨_, _, -, -, -, e1⟩ := h1
    obtain ⟨_, _, -, -, -, e2⟩ := h2
    exact Option.some.inj (e1.symm.trans e2)
  | _ => exact Option.some.inj (Eq.trans (Eq.symm h1) h2)
theorem ca_eq {E : EC} {cA : ClassId} {ty : FieldType} {s : State} (t : Nat) (ht : (tysOf E.2)[t]? = some (E.2 t, ty)) (hK0 : va_K E.1 cls (tysOf E.2) s) (hK : va_K E.1 cls (tysOf E.2 ++ [(cA, ty)]) s) : cA = E.2 t := ra_eq (ca_last hK) (hK0.2 t _ ht).2
theorem x_imet {l : Launch} {E : EC} {y : MethodName} {cc : ByteArray} {maxL mc ms sz : Nat} {rm : Room} {As : List Value} {w0 : va_W} {w1 : (Nat → Nat) → va_W} (hy : plainName y.cls = true) (hsl : (lg_sl As).length ≤ maxL) (hyn : y.name = "<init>")
    (body : ∀ (p : Program) (e : Env) (s : State) (m : MethodId) (args : Array Value) (below : List Frame) (meth : Method) (c : Code) (ls : Array Slot) (A : Nat → Prop), Ix p s m args c meth y.cls cc maxL E → meth.sig.returnType = none → meth.name = "<init>" → (∀ q : Nat, s.heap.size ≤ q → A q) → va_P E.1 cls w0 s.heap → va_D A w0 → va_S A s.heap s.heap [] → lv_has ls maxL (lv_args 0 As) → W p l e rm s m args below meth c s.heap [] 0 0 (MQ below (va_Qv (fun _ : Unit => True) (fun _ t => Iq E w1 A t) A) args s mc ms A) (F0 m 0 ls [])) :
    Met l y (.code y cc maxL none :: big) rm (va_Pc As (Ip E sz w0)) (va_Qv (fun _ : Unit => True) (fun _ t => Iq E w1 (va_A w0 sz) t) (va_A w0 sz)) mc ms (va_A w0 sz) := by
  refine Met.ofW (cc := cc) (maxL := maxL) (ret := none) hy rfl ?_
  intro p e s m args below meth c s₁ B hml hv
  obtain ⟨rfl, rfl, hAo, hN, hP, hK, hD0⟩ := hv
  have hts := atoms_spec (ws := .code y cc maxL none :: big) B.pre
  have hin : meth.name = "<init>" := (name_of_methodNamed B.named B.method).1.trans hyn
  rw [lg_entry_eq]
  exact body p e s m _ below meth c _ _ ⟨B.exec, B.bytes, hml, findClass_of_methodNamed B.named, fun w hw => hts w (List.mem_cons_of_mem _ hw), hK, hAo, hN, B.notSynchronized⟩ B.returns hin (fun q h => Or.inr h) hP hD0.self va_S.rf (lv_entry As hsl)
section XI
variable {p : Program} {l : Launch} {e : Env} {R : Room} {s : State} {m : MethodId} {args : Array Value} {below : List Frame} {meth : Method} {c : Code} {H : Heap} {locs : List Loc} {cells slots : Nat} {Q : State → Prop}
variable {cc : ByteArray} {pc nL : Nat} {ls : Array Slot} {rest : List Value} {E : EC} {A : Nat → Prop} {owc : String} {ws : va_W}
theorem i_newa (C : Ix p s m args c meth owc cc nL E) (hP : va_P E.1 cls ws H) (hD : va_D A ws) (hS : va_S A s.heap H locs) (hA : ∀ q, s.heap.size ≤ q → A q) {atype : ArrayType} {ty : FieldType} (t : Nat) (ht : (tysOf E.2)[t]? = some (E.2 t, ty)) (hty : newarray.typeOf atype = ty) (hw : Cond.arrayClass (newarray.typeOf atype) ∈ big) {n : Int32} {N' : Nat} {a0 : vp_A} (ha : ∀ cA : ClassId, vp_cell cA a0 = arrV cA N' (fun _ => defaultValue ty)) (hn : ¬ n < 0) (hN : n.toNatClampNeg = N') (hbytes : N' * componentBytes ty ≤ 536870912) (hcells : cells + 1 ≤ R.cells) (hslots : slots + N' ≤ R.slots) (hd : decode cc pc = .ok (.newarray atype, 2))
    (kk : ∀ (q : Nat) (H1 : Heap), va_P E.1 cls (ws ++ [(q, .inl (E.2 t, a0))]) H1 → va_D A (ws ++ [(q, .inl (E.2 t, a0))]) → va_S A s.heap H1 locs → W p l e R s m args below meth c H1 locs (cells + 1) (slots + N') Q (F0 m (pc + 2) ls (.ref q :: rest))) : W p l e R s m args below meth c H locs cells slots Q (F0 m pc ls (.int n :: rest)) := by
  refine va_newa C.1 C.2.1 (C.2.2.2.2.1 _ hw) hty C.2.2.2.2.2.1 hP hD hS hA ha hn hN hbytes hcells hslots hd (fun q cA H1 hK hP hD hS => ?_)
  have e := ca_eq t ht C.2.2.2.2.2.1 hK
  subst e
  exact kk q H1 hP hD hS
theorem i_newq (C : Ix p s m args c meth owc cc nL E) (hP : va_P E.1 cls ws H) (hD : va_D A ws) (hS : va_S A s.heap H locs) (hA : ∀ q, s.heap.size ≤ q → A q) {cn : String} {index : Nat} (t : Nat) (ht : (tysOf E.2)[t]? = some (E.2 t, .object cn)) (hw : Cond.classLink owc index cn ∈ big) (hao : va_AO cn s) {n : Int32} {N' : Nat} (hn : ¬ n < 0) (hN : n.toNatClampNeg = N') (hbytes : N' * 4 ≤ 536870912) (hcells : cells + 1 ≤ R.cells) (hslots : slots + N' ≤ R.slots) (hd : decode cc pc = .ok (.anewarray index, 3))
    (kk : ∀ (q : Nat) (H1 : Heap), va_P E.1 cls (ws ++ [(q, .inl (E.2 t, N', .inr (.inr (.inr (.inr (fun _ => none))))))]) H1 → va_D A (ws ++ [(q, .inl (E.2 t, N', .inr (.inr (.inr (.inr (fun _ => none))))))]) → va_S A s.heap H1 locs → W p l e R s m args below meth c H1 locs (cells + 1) (slots + N') Q (F0 m (pc + 3) ls (.ref q :: rest))) : W p l e R s m args below meth c H locs cells slots Q (F0 m pc ls (.int n :: rest)) := by
  refine va_newq C.1 C.2.1 C.2.2.2.1 (C.2.2.2.2.1 _ hw) hao C.2.2.2.2.2.1 hP hD hS hA hn hN hbytes hcells hslots hd (fun q cA H1 hK hP hD hS => ?_)
  have e := ca_eq t ht C.2.2.2.2.2.1 hK
  subst e
  exact kk q H1 hP hD hS
theorem i_mna (C : Ix p s m args c meth owc cc nL E) (hP : va_P E.1 cls ws H) (hD : va_D A ws) (hS : va_S A s.heap H locs) (hA : ∀ q, s.heap.size ≤ q → A q) {index : Nat} (hw : Cond.classLink owc index ("[" ++ (FieldType.array .int).toString) ∈ big) (hw2 : Cond.arrayClass .int ∈ big) {n k : Int32} {N' K' : Nat} (hn : ¬ n < 0) (hk : ¬ k < 0) (hN : n.toNatClampNeg = N') (hM : k.toNatClampNeg = K') (hb1 : N' * 4 ≤ 536870912) (hb2 : K' * componentBytes .int ≤ 536870912) (hb3 : K' ≤ 536870912) (hcells : cells + (1 + N') ≤ R.cells) (hslots : slots + (N' + N' * K') ≤ R.slots) (hd : decode cc pc = .ok (.multianewarray index 2, 4))
    (kk : ∀ (q : Nat) (r : Nat → Nat) (H1 : Heap), va_P E.1 cls (ws ++ [(q, .inl (E.2 8, N', .inr (.inr (.inr (.inr (fun i => if i < N' then some (r i) else none))))))] ++ (List.range N').map (fun i => (r i, .inl (E.2 0, K', .inl (fun _ => 0))))) H1 → va_D A (ws ++ [(q, .inl (E.2 8, N', .inr (.inr (.inr (.inr (fun i => if i < N' then some (r i) else none))))))] ++ (List.range N').map (fun i => (r i, .inl (E.2 0, K', .inl (fun _ => 0))))) → va_S A s.heap H1 locs → W p l e R s m args below meth c H1 locs (cells + 1 + N') (slots + N' + N' * K') Q (F0 m (pc + 4) ls (.ref q :: rest))) : W p l e R s m args below meth c H locs cells slots Q (F0 m pc ls (.int k :: .int n :: rest)) := by
  have hcy : s.vm.findClass (FieldType.array .int).toString = some (E.2 0) := (C.2.2.2.2.2.1.2 0 _ rfl).2
  have e0 : ws ++ va_pl [] (fun _ => (.inr (0, []) : va_E)) = ws := by simp [va_pl]
  refine va_mna (X := ws) (L := []) (f := fun _ => .inr (0, [])) (z := (K', .inl (fun _ => 0))) C.1 C.2.1 C.2.2.2.1 (C.2.2.2.2.1 _ hw) C.2.2.2.2.2.2.1.2.2.2.2 (C.2.2.2.2.1 _ hw2) hcy C.2.2.2.2.2.1 (by rw [e0]; exact hP) (by rw [e0]; exact hD) hS hA hn hk hN hM hb1 hb2 hb3 rfl rfl hcells hslots (fun c => ?_) hd (fun q r cA H1 hinj hnL hK hP hD hS => ?_)
  · show ({ cls := c, slots := Array.replicate K' (.int 0), vm := .none } : Cell) = arrV c K' (fun _ => .int 0)
    rw [arrV_new]
  · have e := ca_eq 8 rfl C.2.2.2.2.2.1 hK
    subst e
    have ep : va_pl ([] ++ (List.range N').map r) (vr_up (fun _ => (.inr (0, []) : va_E)) ((List.range N').map r) (.inl (E.2 0, K', .inl (fun _ => 0)))) = (List.range N').map (fun i => (r i, .inl (E.2 0, K', .inl (fun _ => 0)))) := by
      unfold va_pl
      rw [List.nil_append, List.map_map]
      refine List.map_congr_left (fun i hi => ?_)
      show (r i, vr_up _ _ _ (r i)) = _
      rw [vr_up_in (List.mem_map.mpr ⟨i, hi, rfl⟩)]
    rw [ep] at hP hD
    exact kk q r H1 hP hD hS
theorem i_new (C : Ix p s m args c meth owc cc nL E) (hP : va_P E.1 cls ws H) (hD : va_D A ws) (hS : va_S A s.heap H locs) (hA : ∀ q, s.heap.size ≤ q → A q) (K : Nat) (hK : K < 12) {index N : Nat} (hN : (clsT K).2.2 = N) (h1 : Cond.classLink owc index (clsT K).1 ∈ big) (h2 : Cond.instantiable (clsT K).1 (clsT K).2.2 ∈ big) (h3 : Cond.initialized (clsT K).1 ∈ big) {fs : List Value} (hfs : ∀ j, j < (clsT K).2.2 → defaultValue (tyT K j) = vp_V fs j) (hcells : cells + 1 ≤ R.cells) (hslots : slots + N ≤ R.slots) (hd : decode cc pc = .ok (.new index, 3))
    (kk : ∀ (q : Nat) (H1 : Heap), va_P E.1 cls (ws ++ [(q, .inr (K, fs))]) H1 → va_D A (ws ++ [(q, .inr (K, fs))]) → va_S A s.heap H1 locs → W p l e R s m args below meth c H1 locs (cells + 1) (slots + N) Q (F0 m (pc + 3) ls (.ref q :: rest))) : W p l e R s m args below meth c H locs cells slots Q (F0 m pc ls rest) := by
  subst hN
  exact va_new C.1 C.2.1 C.2.2.2.2.1 (inK K hK) (tyT K) (tyK K hK) C.2.2.2.1 (C.2.2.2.2.1 _ h1) (C.2.2.2.2.1 _ h2) (C.2.2.2.2.1 _ h3) C.2.2.2.2.2.1 hP hD hS hA (cls_get K hK) hfs hcells hslots hd kk
theorem i_get (C : Ix p s m args c meth owc cc nL E) (hP : va_P E.1 cls ws H) {a K j idx : Nat} {fs : List Value} {v : Value} (q0 : Nat) (hq : ws[q0]? = some (a, .inr (K, fs))) (hv : fs[j]? = some v) (hK : K < 12) (hj : j < (clsT K).2.2) (h1 : ((clsT K).2.1 j).1 = (clsT K).1) (hl : Cond.fieldLink owc idx (clsT K).1 ((clsT K).2.1 j).2.1 ((clsT K).2.1 j).2.2.1 ∈ big) (hd : decode cc pc = .ok (.getfield idx, 3))
    (k : W p l e R s m args below meth c H locs cells slots Q (F0 m (pc + 3) ls (v :: rest))) : W p l e R s m args below meth c H locs cells slots Q (F0 m pc ls (.ref a :: rest)) :=
  va_get C.1 C.2.1 C.2.2.2.2.1 (inK K hK) C.2.2.2.1 C.2.2.2.2.2.1 hP q0 hq (cls_get K hK) j hj (C.2.2.2.2.1 _ hl) (fun x hx => by rw [← h1]; exact hx) hv hd k
theorem i_put (C : Ix p s m args c meth owc cc nL E) (hP : va_P E.1 cls ws H) (hD : va_D A ws) (hS : va_S A s.heap H locs) {a K j idx : Nat} {fs : List Value} {v : Value} {ty : FieldType} (q0 : Nat) (hq : ws[q0]? = some (a, .inr (K, fs))) (hK : K < 12) (hj : j < (clsT K).2.2) (h1 : ((clsT K).2.1 j).1 = (clsT K).1) (hfin : ((clsT K).2.1 j).2.2.2 = false) (hty : parseFieldDescriptor ((clsT K).2.1 j).2.2.1 = some ty) (hn : narrow ty v = v) (hfit : fits ty v = true) (hlen : j < fs.length) (hl : Cond.fieldLink owc idx (clsT K).1 ((clsT K).2.1 j).2.1 ((clsT K).2.1 j).2.2.1 ∈ big) (hd : decode cc pc = .ok (.putfield idx, 3))
    (k : ∀ (H1 : Heap) (locs1 : List Loc), va_P E.1 cls (ws.set q0 (a, .inr (K, fs.set j v))) H1 → va_D A (ws.set q0 (a, .inr (K, fs.set j v))) → va_S A s.heap H1 locs1 → W p l e R s m args below meth c H1 locs1 cells slots Q (F0 m (pc + 3) ls rest)) : W p l e R s m args below meth c H locs cells slots Q (F0 m pc ls (v :: .ref a :: rest)) :=
  va_put C.1 C.2.1 C.2.2.2.2.1 (inK K hK) (tyT K) (tyK K hK) (nmK K hK) C.2.2.2.1 C.2.2.2.2.2.1 hP hD hS q0 hq (cls_get K hK) j hj (C.2.2.2.2.1 _ hl) (fun x hx => by rw [← h1]; exact hx) hfin hty hn hfit hlen hd k
theorem i_putF (C : Ix p s m args c meth owc cc nL E) (hin2 : meth.name = "<init>") (hP : va_P E.1 cls ws H) (hD : va_D A ws) (hS : va_S A s.heap H locs) {a K j idx : Nat} {fs : List Value} {v : Value} {ty : FieldType} (q0 : Nat) (hq : ws[q0]? = some (a, .inr (K, fs))) (hK : K < 12) (hj : j < (clsT K).2.2) (h1 : ((clsT K).2.1 j).1 = (clsT K).1) (h1o : ((clsT K).2.1 j).1 = owc) (hfin : ((clsT K).2.1 j).2.2.2 = true) (hty : parseFieldDescriptor ((clsT K).2.1 j).2.2.1 = some ty) (hn : narrow ty v = v) (hfit : fits ty v = true) (hlen : j < fs.length) (hl : Cond.fieldLink owc idx (clsT K).1 ((clsT K).2.1 j).2.1 ((clsT K).2.1 j).2.2.1 ∈ big) (hd : decode cc pc = .ok (.putfield idx, 3))
    (k : ∀ (H1 : Heap) (locs1 : List Loc), va_P E.1 cls (ws.set q0 (a, .inr (K, fs.set j v))) H1 → va_D A (ws.set q0 (a, .inr (K, fs.set j v))) → va_S A s.heap H1 locs1 → W p l e R s m args below meth c H1 locs1 cells slots Q (F0 m (pc + 3) ls rest)) : W p l e R s m args below meth c H locs cells slots Q (F0 m pc ls (v :: .ref a :: rest)) :=
  va_putF C.1 C.2.1 C.2.2.2.2.1 (inK K hK) (tyT K) (tyK K hK) (nmK K hK) C.2.2.2.1 C.2.2.2.2.2.1 hP hD hS q0 hq (cls_get K hK) j hj (C.2.2.2.2.1 _ hl) (fun x hx => by rw [← h1]; exact hx) hfin hin2 h1o hty hn hfit hlen hd k
theorem i_pre (C : Ix p s m args c meth owc cc nL E) {As : List Value} {q0 : Nat × va_E} (hPc : va_P E.1 cls [q0] H) : ∀ U : State, U.heap = H → s.WarmedH U.vm → va_Pc As (Ip E H.size [q0]) As.toArray U := fun U hU hW => ⟨rfl, by rw [hU], C.2.2.2.2.2.2.1.moved hW.alike, C.2.2.2.2.2.2.2.1.warm hW, by rw [hU]; exact hPc, va_K.moved hW.alike C.2.2.2.2.2.1, ⟨fun i j p q hi hj _ => by
    have h1 := (List.getElem?_eq_some_iff.mp hi).1
    have h2 := (List.getElem?_eq_some_iff.mp hj).1
    simp only [List.length_cons, List.length_nil] at h1 h2
    omega, fun _ _ _ => trivial⟩⟩
theorem i_fin (C : Ix p s m args c meth owc cc nL E) (hS : va_S A s.heap H locs) (hA : ∀ q, s.heap.size ≤ q → A q) (hP : va_P E.1 cls ws H) (hD : va_D A ws) {q : Nat × va_E} (k : Nat) (isR : List Nat) {wr : va_W} {w1 : (Nat → Nat) → va_W} (hq : [k].map (fun i => ws[i]?) = [q].map some) (hR : isR.map (fun i => ws[i]?) = wr.map some) (hn : va_nd isR = true) (hdis : ∀ i ∈ isR, i ∉ [k]) {mc ms : Nat} {st0 : List Value} {aa : Array Value} (hr : va_Run p l e R s m args below meth c H locs cells slots mc ms (F0 m pc ls st0) rest (va_Qv (fun _ : Unit => True) (fun _ t => Iq E w1 (va_A [q] H.size) t) (va_A [q] H.size) aa) (va_A [q] H.size))
    (kk : ∀ (x : Nat → Nat) (H1 : Heap) (locs1 : List Loc), va_P E.1 cls (wr ++ w1 x) H1 → va_D A (wr ++ w1 x) → va_S A s.heap H1 locs1 → W p l e R s m args below meth c H1 locs1 (cells + mc) (slots + ms) Q (F0 m (pc + 3) ls rest)) : W p l e R s m args below meth c H locs cells slots Q (F0 m pc ls st0) := by
  have hFc := va_free (wc := [q]) hD hS hA [k] hq
  refine va_callv hr hS (fun q _ h => hFc q h) hFc (fun u t H1 locs1 ht hvm _ hB hz1 hk1 hS => ?_)
  obtain ⟨x, hP1, hD1⟩ := hB
  rw [ht] at hP1
  obtain ⟨hP, hD⟩ := va_join hP hD [k] isR hq hR hn hdis hk1 hFc hP1 hD1
  exact kk x H1 locs1 hP hD hS
theorem i_I (C : Ix p s m args c meth owc cc nL E) {q : Nat} {e0 : va_E} (hPc : va_P E.1 cls [(q, e0)] H) {idx n maxL mc ms : Nat} {y : MethodName} {bytes : ByteArray} {rm : Room} {As st0 : List Value} {Qc : Array Value → State → Outcome → State → Prop} {free : Addr → Prop} (hM : Met l y (.code y bytes maxL none :: big) rm (va_Pc (.ref q :: As) (Ip E H.size [(q, e0)])) Qc mc ms free)
    (h1 : Cond.methodLink owc idx y ∈ big) (h2 : Cond.instanceMethod y ∈ big) (h4 : Cond.initialized y.cls ∈ big) (h5 : Cond.code y bytes maxL none ∈ big) (hyn : y.name = "<init>") (hrc : rm.cells = mc) (hrs : rm.slots = ms) (hy : y.cls ≠ "java/lang/invoke/MethodHandle" ∧ y.cls ≠ "java/lang/invoke/VarHandle" ∧ (parseMethodDescriptor y.desc).map (fun d => d.parameters.length) = some n) (hR : rm.frames + 1 ≤ R.frames ∧ 8 + (maxL + 11) + rm.locals ≤ R.locals) (hf : cells + mc ≤ R.cells ∧ slots + ms ≤ R.slots)
    (hn : As.length = n) (hls : ls.size = nL) (hst : st0 = As.reverse ++ .ref q :: rest) (hroom : (rest.map fun v => v.category).sum ≤ 8) (hd : decode cc pc = .ok (.invokespecial idx, 3)) : va_Run p l e R s m args below meth c H locs cells slots mc ms (F0 m pc ls st0) rest (Qc (Value.ref q :: As).toArray) free :=
  va_runI (As := As) (rest := rest) ⟨C.1, C.2.1, C.2.2.1, C.2.2.2.1, C.2.2.2.2.1⟩ hM (cwI n C.2.2.2.2.1 (x_gc h5) rfl hrc hrs (C.2.2.2.2.1 _ h4) (C.2.2.2.2.1 _ h1) (C.2.2.2.2.1 _ h2) hyn hy hR) ⟨Ip_blind, i_pre C hPc⟩ rfl hn hls hst (lv_room hroom) hd hf
theorem i_IN (C : Ix p s m args c meth owc cc nL E) {q : Nat} {e0 : va_E} (hPc : va_P E.1 cls [(q, e0)] H) {idx n maxL mc ms : Nat} {host : String} {y : MethodName} {bytes : ByteArray} {rm : Room} {As st0 : List Value} {Qc : Array Value → State → Outcome → State → Prop} {free : Addr → Prop} (hM : Met l y (.code y bytes maxL none :: big) rm (va_Pc (.ref q :: As) (Ip E H.size [(q, e0)])) Qc mc ms free)
    (h1 : Cond.methodLinkNest owc idx y host ∈ nstw) (h2 : Cond.instanceMethod y ∈ big) (h4 : Cond.initialized y.cls ∈ big) (h5 : Cond.code y bytes maxL none ∈ big) (hyn : y.name = "<init>") (hrc : rm.cells = mc) (hrs : rm.slots = ms) (hy : y.cls ≠ "java/lang/invoke/MethodHandle" ∧ y.cls ≠ "java/lang/invoke/VarHandle" ∧ (parseMethodDescriptor y.desc).map (fun d => d.parameters.length) = some n) (hR : rm.frames + 1 ≤ R.frames ∧ 8 + (maxL + 11) + rm.locals ≤ R.locals) (hf : cells + mc ≤ R.cells ∧ slots + ms ≤ R.slots)
    (hn : As.length = n) (hls : ls.size = nL) (hst : st0 = As.reverse ++ .ref q :: rest) (hroom : (rest.map fun v => v.category).sum ≤ 8) (hd : decode cc pc = .ok (.invokespecial idx, 3)) : va_Run p l e R s m args below meth c H locs cells slots mc ms (F0 m pc ls st0) rest (Qc (Value.ref q :: As).toArray) free :=
  va_runIN (As := As) (rest := rest) ⟨C.1, C.2.1, C.2.2.1, C.2.2.2.1, C.2.2.2.2.1⟩ hM ⟨va_cnB n C.2.2.2.2.1 (x_gc h5) rfl hrc hrs (C.2.2.2.2.2.2.2.1 _ h1) (C.2.2.2.2.1 _ h4) hy hR, hyn, C.2.2.2.2.1 _ h2⟩ ⟨Ip_blind, i_pre C hPc⟩ rfl hn hls hst (lv_room hroom) hd hf
theorem i_ret (C : Ix p s m args c meth owc cc nL E) (hr : meth.sig.returnType = none) (hP : va_P E.1 cls ws H) (hD : va_D A ws) (hS : va_S A s.heap H locs) {w1 : (Nat → Nat) → va_W} (x : Nat → Nat) (hx : ws = w1 x) {mc ms : Nat} (h1 : cells ≤ mc) (h2 : slots ≤ ms) (hd : decode cc pc = .ok (.return_, 1)) : W p l e R s m args below meth c H locs cells slots (MQ below (va_Qv (fun _ : Unit => True) (fun _ t => Iq E w1 A t) A) args s mc ms A) (F0 m pc ls []) := by
  subst hx
  exact W.widen h1 h2 (W.vret C.1 C.2.1 hr (fun t ht hW => ⟨⟨(), rfl, trivial, x, by rw [ht]; exact hP, hD⟩, hS.F ht⟩) hS.2.2 hd C.2.2.2.2.2.2.2.2)
end XI
theorem row_eq {n : Nat} {f g : Nat → Nat} (h : ∀ i, i < n → f i = g i) : (fun i => if i < n then some (f i) else none) = (fun i => if i < n then some (g i) else none) := by
  funext i
  by_cases hi : i < n
  · rw [if_pos hi, if_pos hi, h i hi]
  · rw [if_neg hi, if_neg hi]
