/-! the law's own rows: the script, the end -/
def zLW (G : zT) (b L : Nat) (xs : Nat → Int32) : Prop := ∃ (p : Program) (l : Launch) (e : Env) (s : State) (m : MethodId) (below : List Frame) (meth : Method) (c : Code) (D : va_G), G = zgx p l e room_1 s m #[Value.ref b] below meth c D (fun q => s.heap.size ≤ q) (lw_Z below #[Value.ref b] s) 4 ∧ p.tables.exec = Jvm.exec ∧ c.code = code ∧ meth.sig.returnType = ret ∧ meth.locks = false ∧ va_X b L xs s s.heap ∧ b < s.heap.size
section ZL
variable {G : zT} {l : Launch} {R : Room} {cc : ByteArray} {nL : Nat} {own nm : String} {D : va_G} {tys : List (ClassId × FieldType)} {b L : Nat} {xs : Nat → Int32} {k n pc : Nat} {lv : List (Option Value)} {st : List Value} {N : Nat} {q : Nat → Nat} {f : zF}
theorem zs_len (S : zLW G b L xs) (hd : decode code pc = .ok (.arraylength, 1)) (kk : G k n (pc + 1) lv (.int (nI L) :: st) N q f) : G k n pc lv (.ref b :: st) N q f := by
  obtain ⟨p, l, e, s, m, below, meth, c, D, rfl, hx, hb, hr, hlk, hX, hbl⟩ := S
  intro H locs ls hl hP hD hS
  exact va_slen hx hb hX hbl (Nat.not_le.mpr hbl) hS hd (kk H locs ls hl hP hD hS)
theorem zs_ld (S : zLW G b L xs) {i : Nat} {v : Int32} (hd : decode code pc = .ok (.iaload, 1)) (hi : i < L) (hL : L ≤ 2048) (hv : xs i = v) (kk : G k n (pc + 1) lv (.int v :: st) N q f) : G k n pc lv (.int (nI i) :: .ref b :: st) N q f := by
  obtain ⟨p, l, e, s, m, below, meth, c, D, rfl, hx, hb, hr, hlk, hX, hbl⟩ := S
  subst hv
  intro H locs ls hl hP hD hS
  refine va_sld hx hb hX hbl (Nat.not_le.mpr hbl) hS (vp_in_nI hi (by omega)) hd ?_
  rw [nI_clamp (by omega)]
  exact kk H locs ls hl hP hD hS
theorem zs_end (S : zLW G b L xs) (hd : decode code pc = .ok (.ireturn, 1)) (hk : k ≤ 600000) (hn : n ≤ 7302250) : G k n pc lv [.int 1] N q f := by
  obtain ⟨p, l, e, s, m, below, meth, c, D, rfl, hx, hb, hr, hlk, hX, hbl⟩ := S
  intro H locs ls hl hP hD hS
  exact va_forget (fun x hx => hS.2.2 x hx) (W.widen hk hn (lw_ret hx hb hr hlk hd))
theorem zr_widen (X : zOK G l R cc nL own nm D tys) {k' n' : Nat} (hk : k ≤ k') (hn : n ≤ n') (kk : G k' n' pc lv st N q f) : G k n pc lv st N q f := by
  obtain ⟨p, e, s, m, args, below, meth, c, A, Q, rfl, hx, hb, hml, hown, hts, hK, hA, hnm, hAO⟩ := X
  intro H locs ls hl hP hD hS
  exact W.widen hk hn (kk H locs ls hl hP hD hS)
theorem zr_tabIn (X : zOK G l R cc nL own nm D tys) {dflt lo hi : Int} {offs : Array Int} {len : Nat} {x : Int32} {off : Int} {tgt : Nat} (hd : decode cc pc = .ok (.tableswitch dflt lo hi offs, len)) (h1 : ¬ x.toInt < lo) (h2 : ¬ hi < x.toInt) (ho : offs[(x.toInt - lo).toNat]? = some off) (ht : (pc : Int) + off = (tgt : Int)) (kk : G k n tgt lv st N q f) : G k n pc lv (.int x :: st) N q f := by
  obtain ⟨p, e, s, m, args, below, meth, c, A, Q, rfl, hx, hb, hml, hown, hts, hK, hA, hnm, hAO⟩ := X
  intro H locs ls hl hP hD hS
  exact lv_tableIn hx hb hd h1 h2 ho ht (kk H locs ls hl hP hD hS)
theorem zr_tabOut (X : zOK G l R cc nL own nm D tys) {dflt lo hi : Int} {offs : Array Int} {len : Nat} {x : Int32} {tgt : Nat} (hd : decode cc pc = .ok (.tableswitch dflt lo hi offs, len)) (h : x.toInt < lo ∨ hi < x.toInt) (ht : (pc : Int) + dflt = (tgt : Int)) (kk : G k n tgt lv st N q f) : G k n pc lv (.int x :: st) N q f := by
  obtain ⟨p, e, s, m, args, below, meth, c, A, Q, rfl, hx, hb, hml, hown, hts, hK, hA, hnm, hAO⟩ := X
  intro H locs ls hl hP hD hS
  exact lv_tableOut hx hb hd h ht (kk H locs ls hl hP hD hS)
/-- the same cells in another order -/
theorem zr_perm (X : zOK G l R cc nL own nm D tys) (g : Nat → Nat) (h1 : ∀ i, i < N → g i < N) (h2 : ∀ i j, i < N → j < N → g i = g j → i = j) (kk : G k n pc lv st N (fun i => q (g i)) (fun i => f (g i))) : G k n pc lv st N q f := by
  obtain ⟨p, e, s, m, args, below, meth, c, A, Q, rfl, hx, hb, hml, hown, hts, hK, hA, hnm, hAO⟩ := X
  intro H locs ls hl hP hD hS
  have key : ∀ (i : Nat) (x : Nat × va_E), (zl N (fun i => q (g i)) (fun i => f (g i)))[i]? = some x → i < N ∧ x = (q (g i), f (g i)) := fun i x hi => by
    have hl := (List.getElem?_eq_some_iff.mp hi).1
    rw [zl_len] at hl
    rw [zl_get hl] at hi
    exact ⟨hl, (Option.some.inj hi).symm⟩
  refine kk H locs ls hl (fun i x hi => ?_) ⟨fun i j x y hi hj hxy => ?_, fun i x hi => ?_⟩ hS
  · obtain ⟨a1, rfl⟩ := key i x hi
    exact hP (g i) _ (zl_get (h1 i a1))
  · obtain ⟨a1, rfl⟩ := key i x hi
    obtain ⟨a2, rfl⟩ := key j y hj
    exact h2 i j a1 a2 (hD.1 (g i) (g j) _ _ (zl_get (h1 i a1)) (zl_get (h1 j a2)) hxy)
  · obtain ⟨a1, rfl⟩ := key i x hi
    exact hD.2 (g i) _ (zl_get (h1 i a1))
end ZL
