theorem rf_cat {lay : Nat → Nat → Nat} {K : Nat} {r : Option Nat} : (rf lay K r).category = 1 := by cases r <;> rfl
section XR2
variable {p : Program} {l : Launch} {e : Env} {R : Room} {s : State} {m : MethodId} {args : Array Value} {below : List Frame} {meth : Method} {c : Code} {H : Heap} {locs : List Loc} {cells slots : Nat} {Q : State → Prop}
variable {cc : ByteArray} {pc nL : Nat} {ls : Array Slot} {rest : List Value} {lay : Nat → Nat → Nat} {K : Nat} {r : Option Nat}
theorem x_aload_n (hexec : p.tables.exec = Jvm.exec) (hb : c.code = cc) {k : Fin 4} {i : Nat} (hdg : decode cc pc = .ok (.aload_n k, 1)) (hi : (k : Nat) = i) (hl : ls[i]? = some (.val (rf lay K r))) (kk : W p l e R s m args below meth c H locs cells slots Q (F0 m (pc + 1) ls (rf lay K r :: rest))) : W p l e R s m args below meth c H locs cells slots Q (F0 m pc ls rest) := by
  cases r with
  | none => exact lv_aload_nN hexec hb hdg hi hl kk
  | some x => exact lv_aload_n hexec hb hdg hi hl kk
theorem x_aload (hexec : p.tables.exec = Jvm.exec) (hb : c.code = cc) {i : Nat} (hdg : decode cc pc = .ok (.aload i, 2)) (hl : ls[i]? = some (.val (rf lay K r))) (kk : W p l e R s m args below meth c H locs cells slots Q (F0 m (pc + 2) ls (rf lay K r :: rest))) : W p l e R s m args below meth c H locs cells slots Q (F0 m pc ls rest) := by
  cases r with
  | none => exact lv_aloadN hexec hb hdg hl kk
  | some x => exact lv_aload hexec hb hdg hl kk
theorem x_astore_n (hexec : p.tables.exec = Jvm.exec) (hb : c.code = cc) {k : Fin 4} {i : Nat} {lv lv' : List (Nat × Value)} (hdg : decode cc pc = .ok (.astore_n k, 1)) (hi : (k : Nat) = i) (h : lv_has ls nL lv) (hn : i < nL) (hl : (i, rf lay K r) :: lv.filter (fun q => !(q.1 == i) && !(q.1 + 1 == i && q.2.category == 2)) = lv')
    (kk : ∀ ls' : Array Slot, lv_has ls' nL lv' → W p l e R s m args below meth c H locs cells slots Q (F0 m (pc + 1) ls' rest)) : W p l e R s m args below meth c H locs cells slots Q (F0 m pc ls (rf lay K r :: rest)) := by
  cases r with
  | none => exact lv_astore_nN hexec hb hdg hi h hn hl kk
  | some x => exact lv_astore_n hexec hb hdg hi h hn hl kk
theorem x_astore (hexec : p.tables.exec = Jvm.exec) (hb : c.code = cc) {i : Nat} {lv lv' : List (Nat × Value)} (hdg : decode cc pc = .ok (.astore i, 2)) (h : lv_has ls nL lv) (hn : i < nL) (hl : (i, rf lay K r) :: lv.filter (fun q => !(q.1 == i) && !(q.1 + 1 == i && q.2.category == 2)) = lv')
    (kk : ∀ ls' : Array Slot, lv_has ls' nL lv' → W p l e R s m args below meth c H locs cells slots Q (F0 m (pc + 2) ls' rest)) : W p l e R s m args below meth c H locs cells slots Q (F0 m pc ls (rf lay K r :: rest)) := by
  cases r with
  | none => exact lv_astoreN hexec hb hdg h hn hl kk
  | some x => exact lv_astore hexec hb hdg h hn hl kk
theorem x_ifnull (hexec : p.tables.exec = Jvm.exec) (hb : c.code = cc) {off : Int} {tgt : Nat} (hdg : decode cc pc = .ok (.ifnull off, 3)) (ht : (pc : Int) + off = (tgt : Int)) (kn : r = none → W p l e R s m args below meth c H locs cells slots Q (F0 m tgt ls rest)) (kv : ∀ i, r = some i → W p l e R s m args below meth c H locs cells slots Q (F0 m (pc + 3) ls rest)) : W p l e R s m args below meth c H locs cells slots Q (F0 m pc ls (rf lay K r :: rest)) := by
  cases r with
  | none => exact lv_ifnullN hexec hb hdg ht (kn rfl)
  | some x => exact lv_ifnull hexec hb hdg (kv x rfl)
theorem x_ifnonnull (hexec : p.tables.exec = Jvm.exec) (hb : c.code = cc) {off : Int} {tgt : Nat} (hdg : decode cc pc = .ok (.ifnonnull off, 3)) (ht : (pc : Int) + off = (tgt : Int)) (kn : r = none → W p l e R s m args below meth c H locs cells slots Q (F0 m (pc + 3) ls rest)) (kv : ∀ i, r = some i → W p l e R s m args below meth c H locs cells slots Q (F0 m tgt ls rest)) : W p l e R s m args below meth c H locs cells slots Q (F0 m pc ls (rf lay K r :: rest)) := by
  cases r with
  | none => exact lv_ifnonnullN hexec hb hdg (kn rfl)
  | some x => exact lv_ifnonnull hexec hb hdg ht (kv x rfl)
end XR2
theorem sw_out {x : Int32} (a n : Nat) (hn : n < 2 ^ 31) (h : ∀ k, a ≤ k → k < n → ¬ x = nI k) : x.toInt < a ∨ (n : Int) ≤ x.toInt := by
  rcases pk_ix x hn with h1 | h1 | ⟨j, h1, h2⟩
  · left; have := Int32.lt_iff_toInt_lt.mp h1; have h0 : (0 : Int32).toInt = 0 := by decide
    omega
  · right; have := Int32.le_iff_toInt_le.mp h1; rw [nI_toInt hn] at this; exact this
  · by_cases hj : a ≤ j
    · exact absurd h2 (h j hj h1)
    · left; rw [h2, nI_toInt (by omega)]; omega
theorem x_copyB {p : Program} {l : Launch} {e : Env} {R : Room} {s : State} {m : MethodId} {args : Array Value} {below : List Frame} {meth : Method} {c : Code} {H : Heap} {locs : List Loc} {Q : State → Prop} {cc : ByteArray} {pc nL : Nat} {ls : Array Slot} {rest : List Value} {E : EC} {lay : Nat → Nat → Nat} {L : List (Nat × Nat)} {A : Nat → Prop} {σ : St} {owc : String}
    (C : Cx p s m args c meth owc cc nL E A) (hw : Wo E lay L A s σ H locs) {i1 i2 idx : Nat} {sp dp n : Int32} (hm1 : (24, i1) ∈ L) (hm2 : (24, i2) ∈ L) (hls : ls.size = nL) (q1 : Cond.methodLink owc idx arraycopyName ∈ big) (q2 : Cond.native arraycopyName ∈ big) (q3 : Cond.static arraycopyName ∈ big) (q4 : Cond.initialized "java/lang/System" ∈ big)
    (h : ¬ sp < 0 ∧ ¬ dp < 0 ∧ ¬ n < 0 ∧ sp.toNatClampNeg + n.toNatClampNeg ≤ 200 ∧ dp.toNatClampNeg + n.toNatClampNeg ≤ 200 ∧ ∀ i, i < n.toNatClampNeg → fits .byte (.int (sA σ 24 i1 (sp.toNatClampNeg + i))) = true)
    (hframes : 1 ≤ R.frames) (hlocals : (rest.map fun v => v.category).sum + (nativeFrameWords "java/lang/System" "arraycopy" 5 + 11) ≤ R.locals) (hd : decode cc pc = .ok (.invokestatic idx, 3))
    (k : ∀ (σ1 : St) (H1 : Heap) (locs1 : List Loc), σ1 = setAll σ 24 i2 (va_cpy (sA σ 24 i1) (sA σ 24 i2) sp.toNatClampNeg dp.toNatClampNeg n.toNatClampNeg) → Wo E lay L A s σ1 H1 locs1 → W p l e R s m args below meth c H1 locs1 0 0 Q (F0 m (pc + 3) ls rest)) : W p l e R s m args below meth c H locs 0 0 Q (F0 m pc ls (.int n :: .int dp :: .ref (lay 24 i2) :: .int sp :: .ref (lay 24 i1) :: rest)) := by
  obtain ⟨q, -, hq⟩ := x_cell hw hm1
  obtain ⟨r, hr0, hr⟩ := x_cell hw hm2
  rw [cv_int (by decide) (by decide)] at hq hr
  exact va_copyi C.1 C.2.1 (C.2.2.1.trans hls.symm) C.2.2.2.1 (C.2.2.2.2.1 _ q1) (C.2.2.2.2.1 _ q2) (C.2.2.2.2.1 _ q3) (C.2.2.2.2.1 _ q4) C.2.2.2.2.2.1 hw.1 hw.2.1 hw.2.2.1 q r 1 1 (ty := .byte) hq hr rfl rfl rfl h.1 h.2.1 h.2.2.1 h.2.2.2.1 h.2.2.2.2.1 h.2.2.2.2.2 hframes hlocals hd
    (fun H1 locs1 hP hD hS => k _ H1 locs1 rfl (x_stA hw hr0 (by decide) (by decide) rfl rfl rfl rfl (by funext z; simp [setAll, sA]) (fun K' i' hn => by simp only [setAll, sA]; rw [if_neg hn]) hP hD hS))
