/-! a method's walk over a world that is a function from places to cells: place k stands at address q k and holds f k -/
abbrev zF : Type := Nat → va_E
abbrev zT : Type := Nat → Nat → Nat → List (Option Value) → List Value → Nat → (Nat → Nat) → zF → Prop
abbrev zP : Type := Option Value → Nat → (Nat → Nat) → zF → Prop
def zl (N : Nat) (q : Nat → Nat) (f : zF) : va_W := (List.range N).map (fun k => (q k, f k))
theorem zl_get {N : Nat} {q : Nat → Nat} {f : zF} {k : Nat} (h : k < N) : (zl N q f)[k]? = some (q k, f k) := by
  unfold zl
  rw [List.getElem?_map, List.getElem?_range h]
  rfl
theorem zl_at {N : Nat} {q : Nat → Nat} {f : zF} {k : Nat} {e : va_E} (h : k < N) (he : f k = e) : (zl N q f)[k]? = some (q k, e) := by
  rw [zl_get h, he]
theorem zl_len {N : Nat} {q : Nat → Nat} {f : zF} : (zl N q f).length = N := by
  unfold zl
  simp
theorem zl_set {N : Nat} {q : Nat → Nat} {f : zF} {k : Nat} {e : va_E} : (zl N q f).set k (q k, e) = zl N q (va_up f k e) := by
  apply List.ext_getElem?
  intro i
  by_cases hi : i < N
  · by_cases hk : i = k
    · subst hk
      rw [List.getElem?_set_self (by rw [zl_len]; exact hi), zl_get hi]
      simp [va_up]
    · rw [List.getElem?_set_ne (Ne.symm hk), zl_get hi, zl_get hi]
      simp [va_up, hk]
  · rw [List.getElem?_eq_none (by rw [List.length_set, zl_len]; omega), List.getElem?_eq_none (by rw [zl_len]; omega)]
theorem zl_push {N : Nat} {q : Nat → Nat} {f : zF} {a : Nat} {e : va_E} : zl N q f ++ [(a, e)] = zl (N + 1) (va_up q N a) (va_up f N e) := by
  unfold zl
  rw [List.range_succ, List.map_append]
  congr 1
  · apply List.map_congr_left
    intro k hk
    have := List.mem_range.mp hk
    simp [va_up, Nat.ne_of_lt this]
  · simp [va_up]
theorem up_eq {α : Type} {f : Nat → α} {k : Nat} {e : α} : va_up f k e k = e := by simp [va_up]
theorem up_ne {α : Type} {f : Nat → α} {k j : Nat} {e e' : α} (h : j ≠ k) (hj : f j = e') : va_up f k e j = e' := by
  simp [va_up, h, hj]
theorem up_ne' {α : Type} {f : Nat → α} {k j : Nat} {e : α} (h : j ≠ k) : va_up f k e j = f j := by
  simp [va_up, h]
def zlv (ls : Array Slot) (nL : Nat) (lv : List (Option Value)) : Prop := ls.size = nL ∧ lv_wf ls ∧ lv.length = nL ∧ ∀ (i : Nat) (v : Value), lv[i]? = some (some v) → v.category = 1 ∧ ls[i]? = some (.val v)
theorem zlv.get {ls : Array Slot} {nL : Nat} {lv : List (Option Value)} (h : zlv ls nL lv) {i : Nat} {v : Value} (hi : lv[i]? = some (some v)) : ls[i]? = some (.val v) := (h.2.2.2 i v hi).2
def zlvl (lv : List (Option Value)) : List (Nat × Value) := (List.range lv.length).filterMap (fun j => (lv[j]?).join.map (fun v => (j, v)))
theorem zlvl_mem {lv : List (Option Value)} {j : Nat} {v : Value} : (j, v) ∈ zlvl lv ↔ lv[j]? = some (some v) := by
  unfold zlvl
  rw [List.mem_filterMap]
  constructor
  · rintro ⟨i, -, h⟩
    cases hx : lv[i]? with
    | none => rw [hx] at h; simp at h
    | some o =>
      cases o with
      | none => rw [hx] at h; simp at h
      | some w => rw [hx] at h; simp at h; obtain ⟨rfl, rfl⟩ := h; exact hx
  · intro h
    refine ⟨j, List.mem_range.mpr (List.getElem?_eq_some_iff.mp h).1, ?_⟩
    rw [h]
    rfl
theorem zlv.has {ls : Array Slot} {nL : Nat} {lv : List (Option Value)} (h : zlv ls nL lv) : lv_has ls nL (zlvl lv) := ⟨h.1, h.2.1, fun q hq => (h.2.2.2 q.1 q.2 (zlvl_mem.mp hq)).2⟩
theorem zlv.store {ls ls' : Array Slot} {nL : Nat} {lv : List (Option Value)} {i : Nat} {v : Value} (h : zlv ls nL lv) (hi : i < nL) (hc : v.category = 1) (h' : lv_has ls' nL ((i, v) :: (zlvl lv).filter (fun q => !(q.1 == i) && !(q.1 + 1 == i && q.2.category == 2)))) : zlv ls' nL (lv.set i (some v)) := by
  refine ⟨h'.1, h'.2.1, by rw [List.length_set]; exact h.2.2.1, fun j w hj => ?_⟩
  by_cases hji : j = i
  · subst hji
    rw [List.getElem?_set_self (by rw [h.2.2.1]; exact hi)] at hj
    cases hj
    exact ⟨hc, h'.2.2 (j, v) List.mem_cons_self⟩
  · rw [List.getElem?_set_ne (Ne.symm hji)] at hj
    have h1 := (h.2.2.2 j w hj).1
    refine ⟨h1, h'.2.2 (j, w) (List.mem_cons_of_mem _ (List.mem_filter.mpr ⟨zlvl_mem.mpr hj, ?_⟩))⟩
    simp [hji, h1]
def zlv0 (av : List Value) (nL : Nat) : List (Option Value) := av.map some ++ List.replicate (nL - av.length) none
theorem z_sl : ∀ (av : List Value), (∀ v ∈ av, v.category = 1) → (lg_sl av).length = av.length
  | [], _ => rfl
  | v :: t, h => by
    have h1 := h v List.mem_cons_self
    have ih := z_sl t (fun w hw => h w (List.mem_cons_of_mem _ hw))
    unfold lg_sl at ih ⊢
    rw [List.flatMap_cons, List.length_append, ih, h1]
    simp
    omega
theorem z_args : ∀ (av : List Value), (∀ v ∈ av, v.category = 1) → ∀ (b i : Nat) (v : Value), av[i]? = some v → (b + i, v) ∈ lv_args b av
  | [], _, b, i, v, h => by simp at h
  | w :: t, hc, b, i, v, h => by
    unfold lv_args
    have h1 := hc w List.mem_cons_self
    rw [if_neg (by omega)]
    cases i with
    | zero => simp at h; subst h; exact List.mem_cons_self
    | succ i =>
      have h2 := z_args t (fun w hw => hc w (List.mem_cons_of_mem _ hw)) (b + 1) i v (by simpa using h)
      rw [show b + 1 + i = b + (i + 1) by omega] at h2
      exact List.mem_cons_of_mem _ h2
theorem zlv.entry {av : List Value} {nL : Nat} (hc : ∀ v ∈ av, v.category = 1) (hn : av.length ≤ nL) : zlv ((lg_sl av ++ List.replicate (nL - (lg_sl av).length) Slot.unset).toArray) nL (zlv0 av nL) := by
  have h := lv_entry av (n := nL) (by rw [z_sl av hc]; exact hn)
  refine ⟨h.1, h.2.1, by unfold zlv0; simp; omega, fun i v hi => ?_⟩
  unfold zlv0 at hi
  by_cases hl : i < av.length
  · rw [List.getElem?_append_left (by simpa using hl), List.getElem?_map] at hi
    cases hx : av[i]? with
    | none => rw [hx] at hi; simp at hi
    | some w =>
      rw [hx] at hi
      simp at hi
      subst hi
      have h2 := z_args av hc 0 i w hx
      rw [Nat.zero_add] at h2
      exact ⟨hc w (List.mem_of_getElem? hx), h.2.2 (i, w) h2⟩
  · rw [List.getElem?_append_right (by simpa using Nat.le_of_not_lt hl)] at hi
    have := List.mem_of_getElem? hi
    simp at this
def zgx (p : Program) (l : Launch) (e : Env) (R : Room) (s : State) (m : MethodId) (args : Array Value) (below : List Frame) (meth : Method) (c : Code) (D : va_G) (A : Nat → Prop) (Q : State → Prop) (nL : Nat) : zT := fun k n pc lv st N q f => ∀ (H : Heap) (locs : List Loc) (ls : Array Slot), zlv ls nL lv → va_P D zCl (zl N q f) H → va_D A (zl N q f) → va_S A s.heap H locs → W p l e R s m args below meth c H locs k n Q (F0 m pc ls st)
def zOK (G : zT) (l : Launch) (R : Room) (cc : ByteArray) (nL : Nat) (own nm : String) (D : va_G) (tys : List (ClassId × FieldType)) : Prop := ∃ (p : Program) (e : Env) (s : State) (m : MethodId) (args : Array Value) (below : List Frame) (meth : Method) (c : Code) (A : Nat → Prop) (Q : State → Prop), G = zgx p l e R s m args below meth c D A Q nL ∧ p.tables.exec = Jvm.exec ∧ c.code = cc ∧ c.maxLocals = nL ∧ s.vm.findClass own = some m.cls ∧ (∀ w ∈ zAll, w.before args s = true) ∧ va_K D zCl tys s ∧ (∀ q, s.heap.size ≤ q → A q) ∧ meth.name = nm ∧ va_AO "BranchingText$Version" s
def zQc (D : va_G) (A : Nat → Prop) (post : zP) : Array Value → State → Outcome → State → Prop := fun _ st oc t => ∃ (v : Option Value) (N : Nat) (q : Nat → Nat) (f : zF), oc = .returned v ∧ post v N q f ∧ va_P D zCl (zl N q f) t.heap ∧ va_D A (zl N q f) ∧ va_F A st t
def zEnd (G : zT) (cc : ByteArray) (ret : Option FieldType) (mc ms : Nat) (post : zP) : Prop := ∃ (p : Program) (l : Launch) (e : Env) (R : Room) (s : State) (m : MethodId) (args : Array Value) (below : List Frame) (meth : Method) (c : Code) (D : va_G) (A : Nat → Prop) (nL : Nat), G = zgx p l e R s m args below meth c D A (MQ below (zQc D A post) args s mc ms A) nL ∧ p.tables.exec = Jvm.exec ∧ c.code = cc ∧ meth.sig.returnType = ret ∧ meth.locks = false
def zPc (D : va_G) (tys : List (ClassId × FieldType)) (sz N : Nat) (q : Nat → Nat) (f : zF) : State → Prop := fun U => U.heap.size = sz ∧ va_P D zCl (zl N q f) U.heap ∧ va_K D zCl tys U ∧ va_D (fun _ => True) (zl N q f) ∧ va_AO "BranchingText$Version" U
def zC (l : Launch) (y : MethodName) (cc : ByteArray) (maxL : Nat) (ret : Option FieldType) (rm : Room) (D : va_G) (tys : List (ClassId × FieldType)) (av : List Value) (N : Nat) (q : Nat → Nat) (f : zF) (post : zP) : Prop := ∀ sz : Nat, Met l y (.code y cc maxL ret :: zAll) rm (va_Pc av (zPc D tys sz N q f)) (zQc D (va_A (zl N q f) sz) post) rm.cells rm.slots (va_A (zl N q f) sz)
theorem zC.of {l : Launch} {y : MethodName} {cc : ByteArray} {maxL : Nat} {ret : Option FieldType} {rm : Room} {D : va_G} {tys : List (ClassId × FieldType)} {av : List Value} {N : Nat} {q : Nat → Nat} {f : zF} {post : zP} (hy : plainName y.cls = true) (hc : ∀ v ∈ av, v.category = 1) (hn : av.length ≤ maxL)
    (body : ∀ G : zT, zOK G l rm cc maxL y.cls y.name D tys → zEnd G cc ret rm.cells rm.slots post → G 0 0 0 (zlv0 av maxL) [] N q f) : zC l y cc maxL ret rm D tys av N q f post := by
  intro sz
  refine Met.ofW (cc := cc) (maxL := maxL) (ret := ret) hy rfl ?_
  intro p e s m args below meth c s₁ B hml hv
  obtain ⟨rfl, hsz, hP, hK, hD0, hAO⟩ := hv
  have hts := atoms_spec (ws := .code y cc maxL ret :: zAll) B.pre
  have hown : s.vm.findClass y.cls = some m.cls := findClass_of_methodNamed B.named
  have hin : meth.name = y.name := (name_of_methodNamed B.named B.method).1
  subst hsz
  have hD := hD0.self (sz := s.heap.size)
  have hG := body (zgx p l e rm s m av.toArray below meth c D (va_A (zl N q f) s.heap.size) (MQ below (zQc D (va_A (zl N q f) s.heap.size) post) av.toArray s rm.cells rm.slots (va_A (zl N q f) s.heap.size)) maxL)
    ⟨p, e, s, m, av.toArray, below, meth, c, _, _, rfl, B.exec, B.bytes, hml, hown, fun w hw => hts w (List.mem_cons_of_mem _ hw), hK, fun x hx => Or.inr hx, hin, hAO⟩
    ⟨p, l, e, rm, s, m, av.toArray, below, meth, c, D, _, maxL, rfl, B.exec, B.bytes, B.returns, B.notSynchronized⟩
  rw [lg_entry_eq]
  exact hG s.heap [] _ (zlv.entry hc hn) hP hD va_S.rf
theorem zC.imp {l : Launch} {y : MethodName} {cc : ByteArray} {maxL : Nat} {ret : Option FieldType} {rm : Room} {D : va_G} {tys : List (ClassId × FieldType)} {av : List Value} {N : Nat} {q : Nat → Nat} {f : zF} {post post' : zP} (h : zC l y cc maxL ret rm D tys av N q f post) (hq : ∀ (v : Option Value) (N' : Nat) (q' : Nat → Nat) (f' : zF), post v N' q' f' → post' v N' q' f') : zC l y cc maxL ret rm D tys av N q f post' := by
  intro sz p e ha hc hk s m args below hf happ hP hK
  obtain ⟨n, o, h1, h2, h3, h4, h5⟩ := h sz p e ha hc hk s m args below hf happ hP hK
  obtain ⟨v, N', q', f', a1, a2, a3⟩ := h4
  exact ⟨n, o, h1, h2, h3, ⟨v, N', q', f', a1, hq _ _ _ _ a2, a3⟩, h5⟩
