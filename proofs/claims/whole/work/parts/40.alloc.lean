section YR
variable {p : Program} {l : Launch} {e : Env} {R : Room} {s : State} {m : MethodId} {args : Array Value} {below : List Frame} {meth : Method} {c : Code} {H : Heap} {locs : List Loc} {cells slots : Nat} {Q : State → Prop}
variable {cc : ByteArray} {pc nL : Nat} {ls : Array Slot} {rest : List Value} {E : EC} {lay : Nat → Nat → Nat} {L : List (Nat × Nat)} {A : Nat → Prop} {σ : St} {owc : String}
theorem y_runi {st0 : List Value} {aa : Array Value} {Qp : Int32 → St → Prop} (hw : Wo E lay L A s σ H locs) (hr : va_Run p l e R s m args below meth c H locs cells slots 0 0 (F0 m pc ls st0) rest (va_Qi Qp (Bd E lay L A) A aa) A)
    (k : ∀ (r : Int32) (σ1 : St) (H1 : Heap) (locs1 : List Loc), Qp r σ1 → Wo E lay L A s σ1 H1 locs1 → W p l e R s m args below meth c H1 locs1 cells slots Q (F0 m (pc + 3) ls (.int r :: rest))) : W p l e R s m args below meth c H locs cells slots Q (F0 m pc ls st0) :=
  va_calli hr hw.2.2.1 (fun q _ h => h) (fun q h => h) (fun r u t H1 locs1 ht hvm hq hb hz hk hS => k r u H1 locs1 hq (x_wo2 ht hb hS))
theorem y_runv {st0 : List Value} {aa : Array Value} {Qp : St → Prop} (hw : Wo E lay L A s σ H locs) (hr : va_Run p l e R s m args below meth c H locs cells slots 0 0 (F0 m pc ls st0) rest (va_Qv Qp (Bd E lay L A) A aa) A)
    (k : ∀ (σ1 : St) (H1 : Heap) (locs1 : List Loc), Qp σ1 → Wo E lay L A s σ1 H1 locs1 → W p l e R s m args below meth c H1 locs1 cells slots Q (F0 m (pc + 3) ls rest)) : W p l e R s m args below meth c H locs cells slots Q (F0 m pc ls st0) :=
  va_callv hr hw.2.2.1 (fun q _ h => h) (fun q h => h) (fun u t H1 locs1 ht hvm hq hb hz hk hS => k u H1 locs1 hq (x_wo2 ht hb hS))
theorem y_runq {st0 : List Value} {aa : Array Value} {K : Nat} {Qp : Option Nat → St → Prop} (hw : Wo E lay L A s σ H locs) (hr : va_Run p l e R s m args below meth c H locs cells slots 0 0 (F0 m pc ls st0) rest (va_Qq (Qo lay L K Qp) (Bd E lay L A) A aa) A)
    (k : ∀ (r : Option Nat) (σ1 : St) (H1 : Heap) (locs1 : List Loc), Qp r σ1 → (∀ i, r = some i → (K, i) ∈ L) → Wo E lay L A s σ1 H1 locs1 → W p l e R s m args below meth c H1 locs1 cells slots Q (F0 m (pc + 3) ls (rf lay K r :: rest))) : W p l e R s m args below meth c H locs cells slots Q (F0 m pc ls st0) :=
  va_callq hr hw.2.2.1 (fun q _ h => h) (fun q h => h) (fun a u t H1 locs1 ht hvm hq hb hz hk hS => by
    obtain ⟨r, rfl, h1, h2⟩ := hq
    exact k r u H1 locs1 h1 h2 (x_wo2 ht hb hS))
theorem y_V (C : Cx p s m args c meth owc cc nL E A) (hw : Wo E lay L A s σ H locs) {K i idx n maxL : Nat} {y : MethodName} {bytes : ByteArray} {ret : Option FieldType} {rm : Room} {As st0 : List Value} {Qc : Array Value → State → Outcome → State → Prop} (hm : (K, i) ∈ L) (hK : K < 12) (hM : Met l y (.code y bytes maxL ret :: big) rm (va_Pc (.ref (lay K i) :: As) (Bp E lay L A σ)) Qc 0 0 A)
    (h1 : Cond.methodLink owc idx y ∈ big) (h2 : Cond.instanceMethod y ∈ big) (h3 : Cond.selects (clsT K).1 y y ∈ big) (h4 : Cond.initialized (clsT K).1 ∈ big) (h5 : Cond.code y bytes maxL ret ∈ big) (hrc : rm.cells = 0) (hrs : rm.slots = 0) (hy : y.cls = (clsT K).1 ∧ y.cls ≠ "java/lang/invoke/MethodHandle" ∧ y.cls ≠ "java/lang/invoke/VarHandle" ∧ (parseMethodDescriptor y.desc).map (fun d => d.parameters.length) = some n) (hR : rm.frames + 1 ≤ R.frames ∧ 8 + (maxL + 11) + rm.locals ≤ R.locals)
    (hn : As.length = n) (hls : ls.size = nL) (hst : st0 = As.reverse ++ .ref (lay K i) :: rest) (hroom : (rest.map fun v => v.category).sum ≤ 8) (hcs : cells ≤ R.cells ∧ slots ≤ R.slots) (hd : decode cc pc = .ok (.invokevirtual idx, 3)) : va_Run p l e R s m args below meth c H locs cells slots 0 0 (F0 m pc ls st0) rest (Qc (Value.ref (lay K i) :: As).toArray) A :=
  va_runV (As := As) (rest := rest) ⟨C.1, C.2.1, C.2.2.1, C.2.2.2.1, C.2.2.2.2.1⟩ hM (cwV n C.2.2.2.2.1 (x_gw h1 h2 h3 h4 h5) rfl hrc hrs hy hR) (x_preV C hw hm hK) rfl hn hls hst (lv_room hroom) hd hcs
theorem y_VN (C : Cx p s m args c meth owc cc nL E A) (hw : Wo E lay L A s σ H locs) {K i idx n maxL : Nat} {host : String} {y : MethodName} {bytes : ByteArray} {ret : Option FieldType} {rm : Room} {As st0 : List Value} {Qc : Array Value → State → Outcome → State → Prop} (hm : (K, i) ∈ L) (hK : K < 12) (hM : Met l y (.code y bytes maxL ret :: big) rm (va_Pc (.ref (lay K i) :: As) (Bp E lay L A σ)) Qc 0 0 A)
    (h1 : Cond.methodLinkNest owc idx y host ∈ nstw) (h2 : Cond.instanceMethod y ∈ big) (h3 : Cond.selects (clsT K).1 y y ∈ big) (h4 : Cond.initialized y.cls ∈ big) (h5 : Cond.code y bytes maxL ret ∈ big) (hrc : rm.cells = 0) (hrs : rm.slots = 0) (hy : y.cls ≠ "java/lang/invoke/MethodHandle" ∧ y.cls ≠ "java/lang/invoke/VarHandle" ∧ (parseMethodDescriptor y.desc).map (fun d => d.parameters.length) = some n) (hR : rm.frames + 1 ≤ R.frames ∧ 8 + (maxL + 11) + rm.locals ≤ R.locals)
    (hn : As.length = n) (hls : ls.size = nL) (hst : st0 = As.reverse ++ .ref (lay K i) :: rest) (hroom : (rest.map fun v => v.category).sum ≤ 8) (hcs : cells ≤ R.cells ∧ slots ≤ R.slots) (hd : decode cc pc = .ok (.invokevirtual idx, 3)) : va_Run p l e R s m args below meth c H locs cells slots 0 0 (F0 m pc ls st0) rest (Qc (Value.ref (lay K i) :: As).toArray) A :=
  va_runVN (As := As) (rest := rest) ⟨C.1, C.2.1, C.2.2.1, C.2.2.2.1, C.2.2.2.2.1⟩ hM ⟨va_cnB n C.2.2.2.2.1 (x_gc h5) rfl hrc hrs (C.2.2.2.2.2.2.2.2 _ h1) (C.2.2.2.2.1 _ h4) hy hR, C.2.2.2.2.1 _ h2, C.2.2.2.2.1 _ h3⟩ (x_preV C hw hm hK) rfl hn hls hst (lv_room hroom) hd hcs
theorem y_S (C : Cx p s m args c meth owc cc nL E A) (hw : Wo E lay L A s σ H locs) {idx n maxL : Nat} {y : MethodName} {bytes : ByteArray} {ret : Option FieldType} {rm : Room} {As st0 : List Value} {Qc : Array Value → State → Outcome → State → Prop} (hM : Met l y (.code y bytes maxL ret :: big) rm (va_Pc As (Bp E lay L A σ)) Qc 0 0 A)
    (h1 : Cond.methodLink owc idx y ∈ big) (h2 : Cond.static y ∈ big) (h4 : Cond.initialized owc ∈ big) (h5 : Cond.code y bytes maxL ret ∈ big) (hrc : rm.cells = 0) (hrs : rm.slots = 0) (hy : y.cls = owc ∧ y.cls ≠ "java/lang/invoke/MethodHandle" ∧ y.cls ≠ "java/lang/invoke/VarHandle" ∧ (parseMethodDescriptor y.desc).map (fun d => d.parameters.length) = some n) (hR : rm.frames + 1 ≤ R.frames ∧ 8 + (maxL + 11) + rm.locals ≤ R.locals)
    (hn : As.length = n) (hls : ls.size = nL) (hst : st0 = As.reverse ++ rest) (hroom : (rest.map fun v => v.category).sum ≤ 8) (hcs : cells ≤ R.cells ∧ slots ≤ R.slots) (hd : decode cc pc = .ok (.invokestatic idx, 3)) : va_Run p l e R s m args below meth c H locs cells slots 0 0 (F0 m pc ls st0) rest (Qc As.toArray) A :=
  va_runS (As := As) (rest := rest) ⟨C.1, C.2.1, C.2.2.1, C.2.2.2.1, C.2.2.2.2.1⟩ hM (cwS n C.2.2.2.2.1 (x_gs h1 h2 h4 h5) rfl hrc hrs hy hR) ⟨Bp_blind, x_pre C hw⟩ rfl hn hls hst (lv_room hroom) hd hcs
theorem y_SN (C : Cx p s m args c meth owc cc nL E A) (hw : Wo E lay L A s σ H locs) {idx n maxL : Nat} {host : String} {y : MethodName} {bytes : ByteArray} {ret : Option FieldType} {rm : Room} {As st0 : List Value} {Qc : Array Value → State → Outcome → State → Prop} (hM : Met l y (.code y bytes maxL ret :: big) rm (va_Pc As (Bp E lay L A σ)) Qc 0 0 A)
    (h1 : Cond.methodLinkNest owc idx y host ∈ nstw) (h2 : Cond.static y ∈ big) (h4 : Cond.initialized y.cls ∈ big) (h5 : Cond.code y bytes maxL ret ∈ big) (hrc : rm.cells = 0) (hrs : rm.slots = 0) (hy : y.cls ≠ "java/lang/invoke/MethodHandle" ∧ y.cls ≠ "java/lang/invoke/VarHandle" ∧ (parseMethodDescriptor y.desc).map (fun d => d.parameters.length) = some n) (hR : rm.frames + 1 ≤ R.frames ∧ 8 + (maxL + 11) + rm.locals ≤ R.locals)
    (hn : As.length = n) (hls : ls.size = nL) (hst : st0 = As.reverse ++ rest) (hroom : (rest.map fun v => v.category).sum ≤ 8) (hcs : cells ≤ R.cells ∧ slots ≤ R.slots) (hd : decode cc pc = .ok (.invokestatic idx, 3)) : va_Run p l e R s m args below meth c H locs cells slots 0 0 (F0 m pc ls st0) rest (Qc As.toArray) A :=
  va_runSN (As := As) (rest := rest) ⟨C.1, C.2.1, C.2.2.1, C.2.2.2.1, C.2.2.2.2.1⟩ hM ⟨va_cnB n C.2.2.2.2.1 (x_gc h5) rfl hrc hrs (C.2.2.2.2.2.2.2.2 _ h1) (C.2.2.2.2.1 _ h4) hy hR, C.2.2.2.2.1 _ h2, trivial⟩ ⟨Bp_blind, x_pre C hw⟩ rfl hn hls hst (lv_room hroom) hd hcs
abbrev AU : Type := St × (Nat → Nat → Nat) × List (Nat × Nat)
def Bda (E : EC) (A : Nat → Prop) (u : AU) (t : State) : Prop := Bd E u.2.1 u.2.2 A u.1 t
def Qa (lay : Nat → Nat → Nat) (L : List (Nat × Nat)) (Q : Int32 → St → List (Nat × Nat) → Prop) : Int32 → AU → Prop := fun r u => Q r u.1 u.2.2 ∧ (∀ q ∈ L, u.2.1 q.1 q.2 = lay q.1 q.2) ∧ ∀ q ∈ L, q ∈ u.2.2
theorem z_iret {lay0 : Nat → Nat → Nat} {L0 : List (Nat × Nat)} {Qp : Int32 → St → List (Nat × Nat) → Prop} {v : Int32} {mc ms : Nat} (C : Cx p s m args c meth owc cc nL E A) (hr : meth.sig.returnType = some .int) (hw : Wo E lay L A s σ H locs) (hag : ∀ q ∈ L0, lay q.1 q.2 = lay0 q.1 q.2) (hL : ∀ q ∈ L0, q ∈ L) (hf : Qp v σ L) (h1 : cells ≤ mc) (h2 : slots ≤ ms) (hd : decode cc pc = .ok (.ireturn, 1)) : W p l e R s m args below meth c H locs cells slots (MQ below (va_Qi (Qa lay0 L0 Qp) (Bda E A) A) args s mc ms A) (F0 m pc ls [.int v]) :=
  W.widen h1 h2 (W.iret (v := v) C.1 C.2.1 hr (fun t ht hW => ⟨⟨v, (σ, lay, L), rfl, ⟨hf, hag, hL⟩, (x_bd C hw ht hW).1⟩, (x_bd C hw ht hW).2⟩) hw.2.2.1.2.2 hd C.2.2.2.2.2.2.2.1)
-- a method that looks at no cell: every old cell stays
theorem z_pure {Qp : Int32 → St → Prop} {st0 : List Value} {aa : Array Value} {w : va_W} (C : Cx p s m args c meth owc cc nL E A) (hP : va_P E.1 cls w H) (hS : va_S A s.heap H locs) {σ' : St} {lay' : Nat → Nat → Nat} (hr : va_Run p l e R s m args below meth c H locs cells slots 0 0 (F0 m pc ls st0) rest (va_Qi Qp (Bd E lay' [] (fun a => H.size ≤ a)) (fun a => H.size ≤ a) aa) (fun a => H.size ≤ a))
    (k : ∀ (r : Int32) (σ1 : St) (H1 : Heap) (locs1 : List Loc), Qp r σ1 → va_P E.1 cls w H1 → va_S A s.heap H1 locs1 → H.size ≤ H1.size → (∀ q : Nat, q < H.size → H1[q]? = H[q]?) → W p l e R s m args below meth c H1 locs1 cells slots Q (F0 m (pc + 3) ls (.int r :: rest))) : W p l e R s m args below meth c H locs cells slots Q (F0 m pc ls st0) :=
  va_calli hr hS (fun q h1 h2 => absurd h2 (by omega)) (fun q h => C.2.2.2.2.2.2.1 q (Nat.le_trans hS.1 h)) (fun r u t H1 locs1 ht hvm hq hb hz hk hS => k r u H1 locs1 hq (hP.kept (fun k q hq => hk q.1 ((hP k q hq).lt) (by have := (hP k q hq).lt; omega))) hS hz (fun q h => hk q h (by omega)))
theorem z_fin {w : va_W} {q : Nat} {e0 : va_E} (C : Cx p s m args c meth owc cc nL E A) (hP : va_P E.1 cls (w ++ [(q, e0)]) H) (hD : va_D A (w ++ [(q, e0)])) (hS : va_S A s.heap H locs) {w1 : (Nat → Nat) → va_W} {mc ms : Nat} {st0 : List Value} {aa : Array Value} (hr : va_Run p l e R s m args below meth c H locs cells slots mc ms (F0 m pc ls st0) rest (va_Qv (fun _ : Unit => True) (fun _ t => Iq E w1 (va_A [(q, e0)] H.size) t) (va_A [(q, e0)] H.size) aa) (va_A [(q, e0)] H.size))
    (kk : ∀ (x : Nat → Nat) (H1 : Heap) (locs1 : List Loc), va_P E.1 cls (w ++ w1 x) H1 → va_D A (w ++ w1 x) → va_S A s.heap H1 locs1 → W p l e R s m args below meth c H1 locs1 (cells + mc) (slots + ms) Q (F0 m (pc + 3) ls rest)) : W p l e R s m args below meth c H locs cells slots Q (F0 m pc ls st0) := by
  have hlen : (w ++ [(q, e0)])[w.length]? = some (q, e0) := by rw [List.getElem?_append_right (Nat.le_refl _), Nat.sub_self]; rfl
  have hq : [w.length].map (fun i => (w ++ [(q, e0)])[i]?) = [(q, e0)].map some := by simp
  have hR : (List.range w.length).map (fun i => (w ++ [(q, e0)])[i]?) = w.map some := by
    apply List.ext_getElem?
    intro n
    rw [List.getElem?_map, List.getElem?_map]
    by_cases hn : n < w.length
    · rw [List.getElem?_range hn, Option.map_some, List.getElem?_append_left hn, List.getElem?_eq_getElem hn]; rfl
    · rw [List.getElem?_eq_none (by simpa using hn), List.getElem?_eq_none (by simpa using hn)]; rfl
  have hnd : ∀ l : List Nat, l.Nodup → va_nd l = true := by
    intro l
    induction l with
    | nil => intro _; rfl
    | cons a l ih => intro h; rw [List.nodup_cons] at h; simp [va_nd, h.1, ih h.2]
  have hA : ∀ q : Nat, s.heap.size ≤ q → A q := C.2.2.2.2.2.2.1
  have hFc := va_free (wc := [(q, e0)]) hD hS hA [w.length] hq
  refine va_callv hr hS (fun q _ h => hFc q h) hFc (fun u t H1 locs1 ht hvm _ hB hz1 hk1 hS => ?_)
  obtain ⟨x, hP1, hD1⟩ := hB
  rw [ht] at hP1
  obtain ⟨hP, hD⟩ := va_join hP hD [w.length] (List.range w.length) hq hR (hnd _ List.nodup_range) (by intro i hi; rw [List.mem_range] at hi; simp; omega) hk1 hFc hP1 hD1
  exact kk x H1 locs1 hP hD hS
theorem cv_same {ca : Nat → ClassId} {lay1 : Nat → Nat → Nat} {σ1 : St} {K i : Nat} (hm : (K, i) ∈ L) (hv : K < 12 ∨ 20 ≤ K) (hC : Clo L) (hR : RC L σ) (hag : ∀ q ∈ L, lay1 q.1 q.2 = lay q.1 q.2) (h1 : sF σ1 K i = sF σ K i) (h2 : sJ σ1 K i = sJ σ K i) (h3 : sA σ1 K i = sA σ K i) (h4 : sB σ1 K i = sB σ K i) (h5 : sR σ1 K i = sR σ K i) : cv ca lay1 σ1 K i = cv ca lay σ K i := by
  rcases hv with hK | hK
  · rw [cv_obj hK, cv_obj hK]
    refine congrArg (fun z => Sum.inr (K, z)) (List.map_congr_left (fun j hj => ?_))
    unfold fv
    rw [h1, h2]
    split
    · rfl
    · rfl
    · rename_i h0 h1'
      have h2' : ftp K j = 2 := by
        have : ftp K j ≠ 0 := h0
        have : ftp K j ≠ 1 := h1'
        unfold ftp at *
        split <;> simp_all
      rw [hag _ (hC K i hm j hK (List.mem_range.mp hj) h2')]
  · unfold cv
    simp only [if_neg (show ¬ K < 20 by omega), h3, h4, h5]
    have e5 : (fun p => (sR σ K i p).map (lay1 (tk K))) = (fun p => (sR σ K i p).map (lay (tk K))) := by
      funext p
      cases hp : sR σ K i p with
      | none => rfl
      | some i' => show some (lay1 (tk K) i') = some (lay (tk K) i'); rw [hag _ (hR K i p i' hp)]
    rw [e5]
theorem z_commit {w : va_W} {ids : List (Nat × Nat)} {lay1 : Nat → Nat → Nat} {σ1 : St} (hP : va_P E.1 cls (Wl E.2 lay L σ ++ w) H) (hD : va_D A (Wl E.2 lay L σ ++ w)) (hS : va_S A s.heap H locs) (hC : Clo L) (hR : RC L σ) (hval : ∀ q ∈ L, q.1 < 12 ∨ 20 ≤ q.1) (hag : ∀ q ∈ L, lay1 q.1 q.2 = lay q.1 q.2) (hσ : ∀ q ∈ L, sF σ1 q.1 q.2 = sF σ q.1 q.2 ∧ sJ σ1 q.1 q.2 = sJ σ q.1 q.2 ∧ sA σ1 q.1 q.2 = sA σ q.1 q.2 ∧ sB σ1 q.1 q.2 = sB σ q.1 q.2) (h5 : sR σ1 = sR σ) (hw1 : w = ids.map (cel E.2 lay1 σ1)) (hC1 : ∀ K i, (K, i) ∈ ids → ∀ j, K < 12 → j < nfl K → ftp K j = 2 → own K j i ∈ L ++ ids) : Wo E lay1 (L ++ ids) A s σ1 H locs := by
  have e : Wl E.2 lay L σ ++ w = Wl E.2 lay1 (L ++ ids) σ1 := by
    unfold Wl
    rw [List.map_append, hw1]
    congr 1
    refine List.map_congr_left (fun q hq => ?_)
    obtain ⟨K, i⟩ := q
    obtain ⟨g1, g2, g3, g4⟩ := hσ _ hq
    show (lay K i, cv E.2 lay σ K i) = (lay1 K i, cv E.2 lay1 σ1 K i)
    rw [hag _ hq, cv_same hq (hval _ hq) hC hR hag g1 g2 g3 g4 (by rw [h5])]
  rw [e] at hP hD
  refine ⟨hP, hD, hS, ?_, ?_⟩
  · intro K i hm j hK hj hf
    rcases List.mem_append.mp hm with h | h
    · exact List.mem_append_left _ (hC K i h j hK hj hf)
    · exact hC1 K i h j hK hj hf
  · intro K i p i' h
    rw [h5] at h
    exact List.mem_append_left _ (hR K i p i' h)
end YR
def newText (σ : St) (t : Nat) (k w y : Int32) : St := (fun K i j => if i = t ∧ (K = 8 ∨ K = 4 ∨ K = 7) then (if K = 8 then (if j = 0 then k else if j = 1 then w else if j = 2 then y else 0) else 0) else sF σ K i j, fun K i j => if i = t ∧ (K = 25 ∨ K = 26 ∨ K = 27 ∨ K = 29) then 0 else sA σ K i j, sJ σ, sB σ, sR σ)
def newFeat (σ : St) (t : Nat) (so v : Int32) : St := (fun K i j => if i = t ∧ K = 0 then (if j = 0 then so else if j = 1 then v else 0) else sF σ K i j, fun K i j => if i = t ∧ K = 28 then 0 else sA σ K i j, sJ σ, sB σ, sR σ)
def idsT (t : Nat) : List (Nat × Nat) := [(8, t), (4, t), (25, t), (26, t), (27, t), (7, t), (29, t)]
def idsF (t : Nat) : List (Nat × Nat) := [(0, t), (28, t)]
def layT (lay : Nat → Nat → Nat) (t q : Nat) (x : Nat → Nat) : Nat → Nat → Nat := fun K i => if K = 8 ∧ i = t then q else if K = 4 ∧ i = t then x 0 else if K = 25 ∧ i = t then x 1 else if K = 26 ∧ i = t then x 2 else if K = 27 ∧ i = t then x 3 else if K = 7 ∧ i = t then x 4 else if K = 29 ∧ i = t then x 5 else lay K i
def layF (lay : Nat → Nat → Nat) (t q : Nat) (x : Nat → Nat) : Nat → Nat → Nat := fun K i => if K = 0 ∧ i = t then q else if K = 28 ∧ i = t then x 0 else lay K i
theorem w1_T {E : EC} {lay : Nat → Nat → Nat} {σ : St} {t q : Nat} {x : Nat → Nat} {k w y : Int32} : w1X8_init E q k w y x = (idsT t).map (cel E.2 (layT lay t q x) (newText σ t k w y)) := by
  unfold w1X8_init idsT cel
  simp only [List.map_cons, List.map_nil]
  rw [cv_obj (K := 8) (by decide), cv_obj (K := 4) (by decide), cv_obj (K := 7) (by decide), cv_int (K := 25) (by decide) (by decide), cv_int (K := 26) (by decide) (by decide), cv_int (K := 27) (by decide) (by decide), cv_int (K := 29) (by decide) (by decide)]
  have f8 : (List.range (nfl 8)).map (fun j => fv (layT lay t q x) (newText σ t k w y) 8 t j) = [fv (layT lay t q x) (newText σ t k w y) 8 t 0, fv (layT lay t q x) (newText σ t k w y) 8 t 1, fv (layT lay t q x) (newText σ t k w y) 8 t 2, fv (layT lay t q x) (newText σ t k w y) 8 t 3, fv (layT lay t q x) (newText σ t k w y) 8 t 4, fv (layT lay t q x) (newText σ t k w y) 8 t 5] := rfl
  have f4 : (List.range (nfl 4)).map (fun j => fv (layT lay t q x) (newText σ t k w y) 4 t j) = [fv (layT lay t q x) (newText σ t k w y) 4 t 0, fv (layT lay t q x) (newText σ t k w y) 4 t 1, fv (layT lay t q x) (newText σ t k w y) 4 t 2, fv (layT lay t q x) (newText σ t k w y) 4 t 3, fv (layT lay t q x) (newText σ t k w y) 4 t 4, fv (layT lay t q x) (newText σ t k w y) 4 t 5, fv (layT lay t q x) (newText σ t k w y) 4 t 6, fv (layT lay t q x) (newText σ t k w y) 4 t 7] := rfl
  have f7 : (List.range (nfl 7)).map (fun j => fv (layT lay t q x) (newText σ t k w y) 7 t j) = [fv (layT lay t q x) (newText σ t k w y) 7 t 0, fv (layT lay t q x) (newText σ t k w y) 7 t 1, fv (layT lay t q x) (newText σ t k w y) 7 t 2] := rfl
  rw [f8, f4, f7]
  have a25 : sA (newText σ t k w y) 25 t = fun _ => 0 := by funext z; simp [newText, sA]
  have a26 : sA (newText σ t k w y) 26 t = fun _ => 0 := by funext z; simp [newText, sA]
  have a27 : sA (newText σ t k w y) 27 t = fun _ => 0 := by funext z; simp [newText, sA]
  have a29 : sA (newText σ t k w y) 29 t = fun _ => 0 := by funext z; simp [newText, sA]
  rw [a25, a26, a27, a29]
  simp [fv, ftp, tyT, tyX8, tyX4, tyX7, own, newText, sF, layT, elT, alen]
theorem w1_F {E : EC} {lay : Nat → Nat → Nat} {σ : St} {t q : Nat} {x : Nat → Nat} {so v : Int32} : w1X0_init E q so v x = (idsF t).map (cel E.2 (layF lay t q x) (newFeat σ t so v)) := by
  unfold w1X0_init idsF cel
  simp only [List.map_cons, List.map_nil]
  rw [cv_obj (K := 0) (by decide), cv_int (K := 28) (by decide) (by decide)]
  have f8 : (List.range (nfl 0)).map (fun j => fv (layF lay t q x) (newFeat σ t so v) 0 t j) = [fv (layF lay t q x) (newFeat σ t so v) 0 t 0, fv (layF lay t q x) (newFeat σ t so v) 0 t 1, fv (layF lay t q x) (newFeat σ t so v) 0 t 2, fv (layF lay t q x) (newFeat σ t so v) 0 t 3] := rfl
  rw [f8]
  have a28 : sA (newFeat σ t so v) 28 t = fun _ => 0 := by funext z; simp [newFeat, sA]
  rw [a28]
  simp [fv, ftp, tyT, tyX0, own, newFeat, sF, layF, elT, alen]
def Bpa (E : EC) (lay : Nat → Nat → Nat) (L : List (Nat × Nat)) (A : Nat → Prop) (σ : St) (U : State) : Prop := Aos U ∧ Bp E lay L A σ U
theorem Bpa_blind {E : EC} {lay : Nat → Nat → Nat} {L : List (Nat × Nat)} {A : Nat → Prop} {σ : St} {As : List Value} : FrameBlind (va_Pc As (Bpa E lay L A σ)) := by
  intro a U g mk q
  obtain ⟨q0, qa, q1, qN, qP, qK, qD⟩ := q
  exact ⟨q0, Aos.moved (u := U) (U := U.calling g mk a) (Vm.Alike.refl U.vm) qa, q1, Nst.same (s := U) (U := U.calling g mk a) rfl qN, qP, va_K.moved (u := U) (U := U.calling g mk a) (Vm.Alike.refl U.vm) qK, qD⟩
theorem z_met {l : Launch} {E : EC} {lay : Nat → Nat → Nat} {L : List (Nat × Nat)} {A : Nat → Prop} {σ : St} {cc : ByteArray} {y : MethodName} {maxL mc ms : Nat} {ret : Option FieldType} {rm : Room} {As : List Value} {Qc : Array Value → State → Outcome → State → Prop} (hy : plainName y.cls = true) (hsl : (lg_sl As).length ≤ maxL)
    (body : ∀ (p : Program) (e : Env) (s : State) (m : MethodId) (args : Array Value) (below : List Frame) (meth : Method) (c : Code) (ls : Array Slot), Aos s → Cx p s m args c meth y.cls cc maxL E A → meth.sig.returnType = ret → Wo E lay L A s σ s.heap [] → lv_has ls maxL (lv_args 0 As) → W p l e rm s m args below meth c s.heap [] 0 0 (MQ below Qc args s mc ms A) (F0 m 0 ls [])) : Met l y (.code y cc maxL ret :: big) rm (va_Pc As (Bpa E lay L A σ)) Qc mc ms A := by
  refine Met.ofW (cc := cc) (maxL := maxL) (ret := ret) hy rfl ?_
  intro p e s m args below meth c s₁ B hml hv
  obtain ⟨rfl, hAo, hA, hN, hP, hK, hD, hC, hR⟩ := hv
  have hts := atoms_spec (ws := .code y cc maxL ret :: big) B.pre
  rw [lg_entry_eq]
  exact body p e s m _ below meth c _ hAo ⟨B.exec, B.bytes, hml, findClass_of_methodNamed B.named, fun w hw => hts w (List.mem_cons_of_mem _ hw), hK, hA, B.notSynchronized, hN⟩ B.returns ⟨hP, hD, va_S.rf, hC, hR⟩ (lv_entry As hsl)
theorem z_last {D : va_G} {cl : List vw_C} {w : va_W} {x : Nat × va_E} {H : Heap} (h : va_P D cl (w ++ [x]) H) : va_P D cl [x] H := by
  intro k q hk
  have hk0 : k = 0 := by
    have := (List.getElem?_eq_some_iff.mp hk).1
    simp only [List.length_cons, List.length_nil] at this
    omega
  subst hk0
  exact h w.length q (by rw [List.getElem?_append_right (Nat.le_refl _), Nat.sub_self]; exact hk)
def zSt : St := (fun _ _ _ => 0, fun _ _ _ => 0, fun _ _ _ => 0, fun _ _ _ => 0, fun _ _ _ => none)
def smallV (c : Int32) : Int32 := if c < 65 then c else if 90 < c then c else (c - 65) + 97
theorem small_ok (N : Nat) (σ : St) (c : Int32) : fX10_smallSign N σ c (fun r _ => r = smallV c) := by
  unfold fX10_smallSign smallV
  refine ⟨fun h => by rw [if_pos h], fun h => ⟨fun h2 => by rw [if_neg h, if_pos h2], fun h2 => by rw [if_neg h, if_neg h2]⟩⟩
theorem z_wl0 {E : EC} {lay : Nat → Nat → Nat} {A : Nat → Prop} {σ : St} {U : State} (hσ : ∀ K i p, sR σ K i p = none) (hA : ∀ q, U.heap.size ≤ q → A q) (hN : Nst U) (hK : va_K E.1 cls (tysOf E.2) U) : Bp E lay [] A σ U := by
  refine ⟨hA, hN, fun k q h => by simp [Wl] at h, hK, ⟨fun i j p q h => by simp [Wl] at h, fun k q h => by simp [Wl] at h⟩, fun K i h => by simp at h, fun K i p i' h => by rw [hσ] at h; cases h⟩
theorem layT_ag {lay : Nat → Nat → Nat} {L : List (Nat × Nat)} {t q : Nat} {x : Nat → Nat} (h : ∀ z ∈ idsT t, z ∉ L) : ∀ z ∈ L, layT lay t q x z.1 z.2 = lay z.1 z.2 := by
  intro z hz
  have hn : ∀ K, (K, t) ∈ idsT t → ¬ (z.1 = K ∧ z.2 = t) := fun K hK e => h _ hK (by obtain ⟨a, b⟩ := z; obtain ⟨rfl, rfl⟩ := e; exact hz)
  unfold layT
  rw [if_neg (hn _ (by simp [idsT])), if_neg (hn _ (by simp [idsT])), if_neg (hn _ (by simp [idsT])), if_neg (hn _ (by simp [idsT])), if_neg (hn _ (by simp [idsT])), if_neg (hn _ (by simp [idsT])), if_neg (hn _ (by simp [idsT]))]
theorem layF_ag {lay : Nat → Nat → Nat} {L : List (Nat × Nat)} {t q : Nat} {x : Nat → Nat} (h : ∀ z ∈ idsF t, z ∉ L) : ∀ z ∈ L, layF lay t q x z.1 z.2 = lay z.1 z.2 := by
  intro z hz
  have hn : ∀ K, (K, t) ∈ idsF t → ¬ (z.1 = K ∧ z.2 = t) := fun K hK e => h _ hK (by obtain ⟨a, b⟩ := z; obtain ⟨rfl, rfl⟩ := e; exact hz)
  unfold layF
  rw [if_neg (hn _ (by simp [idsF])), if_neg (hn _ (by simp [idsF]))]
theorem newText_same {σ : St} {L : List (Nat × Nat)} {t : Nat} {k w y : Int32} (h : ∀ z ∈ idsT t, z ∉ L) : ∀ z ∈ L, sF (newText σ t k w y) z.1 z.2 = sF σ z.1 z.2 ∧ sJ (newText σ t k w y) z.1 z.2 = sJ σ z.1 z.2 ∧ sA (newText σ t k w y) z.1 z.2 = sA σ z.1 z.2 ∧ sB (newText σ t k w y) z.1 z.2 = sB σ z.1 z.2 := by
  intro z hz
  have hn : ∀ K, (K, t) ∈ idsT t → ¬ (z.2 = t ∧ z.1 = K) := fun K hK e => h _ hK (by obtain ⟨a, b⟩ := z; obtain ⟨rfl, rfl⟩ := e; exact hz)
  have h8 := hn 8 (by simp [idsT]); have h4 := hn 4 (by simp [idsT]); have h7 := hn 7 (by simp [idsT]); have h25 := hn 25 (by simp [idsT]); have h26 := hn 26 (by simp [idsT]); have h27 := hn 27 (by simp [idsT]); have h29 := hn 29 (by simp [idsT])
  refine ⟨?_, rfl, ?_, rfl⟩
  · funext j; simp only [newText, sF]; rw [if_neg (fun e => by rcases e with ⟨e1, e2 | e2 | e2⟩ <;> simp_all)]
  · funext j; simp only [newText, sA]; rw [if_neg (fun e => by rcases e with ⟨e1, e2 | e2 | e2 | e2⟩ <;> simp_all)]
theorem newFeat_same {σ : St} {L : List (Nat × Nat)} {t : Nat} {k w : Int32} (h : ∀ z ∈ idsF t, z ∉ L) : ∀ z ∈ L, sF (newFeat σ t k w) z.1 z.2 = sF σ z.1 z.2 ∧ sJ (newFeat σ t k w) z.1 z.2 = sJ σ z.1 z.2 ∧ sA (newFeat σ t k w) z.1 z.2 = sA σ z.1 z.2 ∧ sB (newFeat σ t k w) z.1 z.2 = sB σ z.1 z.2 := by
  intro z hz
  have hn : ∀ K, (K, t) ∈ idsF t → ¬ (z.2 = t ∧ z.1 = K) := fun K hK e => h _ hK (by obtain ⟨a, b⟩ := z; obtain ⟨rfl, rfl⟩ := e; exact hz)
  have h8 := hn 0 (by simp [idsF]); have h4 := hn 28 (by simp [idsF])
  refine ⟨?_, rfl, ?_, rfl⟩
  · funext j; simp only [newFeat, sF]; rw [if_neg h8]
  · funext j; simp only [newFeat, sA]; rw [if_neg h4]
theorem clo_T {L : List (Nat × Nat)} {t : Nat} : ∀ K i, (K, i) ∈ idsT t → ∀ j, K < 12 → j < nfl K → ftp K j = 2 → own K j i ∈ L ++ idsT t := by
  intro K i h j hK hj hf
  refine List.mem_append_right _ ?_
  simp only [idsT, List.mem_cons, List.not_mem_nil, or_false, Prod.mk.injEq] at h
  rcases h with ⟨rfl, rfl⟩ | ⟨rfl, rfl⟩ | ⟨rfl, rfl⟩ | ⟨rfl, rfl⟩ | ⟨rfl, rfl⟩ | ⟨rfl, rfl⟩ | ⟨rfl, rfl⟩ <;> first
    | (exact absurd hK (by decide))
    | (have hj' : j < 6 := hj; rcases (show j = 0 ∨ j = 1 ∨ j = 2 ∨ j = 3 ∨ j = 4 ∨ j = 5 by omega) with rfl | rfl | rfl | rfl | rfl | rfl <;> first | (exact absurd hf (by decide)) | simp [own, idsT])
    | (have hj' : j < 8 := hj; rcases (show j = 0 ∨ j = 1 ∨ j = 2 ∨ j = 3 ∨ j = 4 ∨ j = 5 ∨ j = 6 ∨ j = 7 by omega) with rfl | rfl | rfl | rfl | rfl | rfl | rfl | rfl <;> first | (exact absurd hf (by decide)) | simp [own, idsT])
    | (have hj' : j < 3 := hj; rcases (show j = 0 ∨ j = 1 ∨ j = 2 by omega) with rfl | rfl | rfl <;> first | (exact absurd hf (by decide)) | simp [own, idsT])
theorem clo_F {L : List (Nat × Nat)} {t : Nat} : ∀ K i, (K, i) ∈ idsF t → ∀ j, K < 12 → j < nfl K → ftp K j = 2 → own K j i ∈ L ++ idsF t := by
  intro K i h j hK hj hf
  refine List.mem_append_right _ ?_
  simp only [idsF, List.mem_cons, List.not_mem_nil, or_false, Prod.mk.injEq] at h
  rcases h with ⟨rfl, rfl⟩ | ⟨rfl, rfl⟩ <;> first
    | (exact absurd hK (by decide))
    | (have hj' : j < 4 := hj; rcases (show j = 0 ∨ j = 1 ∨ j = 2 ∨ j = 3 by omega) with rfl | rfl | rfl | rfl <;> first | (exact absurd hf (by decide)) | simp [own, idsF])
