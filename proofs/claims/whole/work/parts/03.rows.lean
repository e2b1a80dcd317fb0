section ZR
variable {G : zT} {l : Launch} {R : Room} {cc : ByteArray} {nL : Nat} {own nm : String} {D : va_G} {tys : List (ClassId × FieldType)} {k n pc : Nat} {lv : List (Option Value)} {st : List Value} {N : Nat} {q : Nat → Nat} {f : zF}
theorem zr_iconst (X : zOK G l R cc nL own nm D tys) {i : Int} {v : Int32} (hd : decode cc pc = .ok (.iconst i, 1)) (hv : Int32.ofInt i = v) (kk : G k n (pc + 1) lv (.int v :: st) N q f) : G k n pc lv st N q f := by
  obtain ⟨p, e, s, m, args, below, meth, c, A, Q, rfl, hx, hb, hml, hown, hts, hK, hA, hnm, hAO⟩ := X
  intro H locs ls hl hP hD hS
  exact lv_iconst hx hb hd hv (kk H locs ls hl hP hD hS)
theorem zr_bipush (X : zOK G l R cc nL own nm D tys) {i : Int} {v : Int32} (hd : decode cc pc = .ok (.bipush i, 2)) (hv : (Int8.ofInt i).toInt32 = v) (kk : G k n (pc + 2) lv (.int v :: st) N q f) : G k n pc lv st N q f := by
  obtain ⟨p, e, s, m, args, below, meth, c, A, Q, rfl, hx, hb, hml, hown, hts, hK, hA, hnm, hAO⟩ := X
  intro H locs ls hl hP hD hS
  exact lv_bipush hx hb hd hv (kk H locs ls hl hP hD hS)
theorem zr_sipush (X : zOK G l R cc nL own nm D tys) {i : Int} {v : Int32} (hd : decode cc pc = .ok (.sipush i, 3)) (hv : (Int16.ofInt i).toInt32 = v) (kk : G k n (pc + 3) lv (.int v :: st) N q f) : G k n pc lv st N q f := by
  obtain ⟨p, e, s, m, args, below, meth, c, A, Q, rfl, hx, hb, hml, hown, hts, hK, hA, hnm, hAO⟩ := X
  intro H locs ls hl hP hD hS
  exact lv_sipush hx hb hd hv (kk H locs ls hl hP hD hS)
theorem zr_null (X : zOK G l R cc nL own nm D tys) (hd : decode cc pc = .ok (.aconst_null, 1)) (kk : G k n (pc + 1) lv (.null :: st) N q f) : G k n pc lv st N q f := by
  obtain ⟨p, e, s, m, args, below, meth, c, A, Q, rfl, hx, hb, hml, hown, hts, hK, hA, hnm, hAO⟩ := X
  intro H locs ls hl hP hD hS
  exact lv_null hx hb hd (kk H locs ls hl hP hD hS)
theorem zr_iload_n (X : zOK G l R cc nL own nm D tys) {i : Fin 4} {x : Int32} (hd : decode cc pc = .ok (.iload_n i, 1)) (h0 : lv[(i : Nat)]? = some (some (.int x))) (kk : G k n (pc + 1) lv (.int x :: st) N q f) : G k n pc lv st N q f := by
  obtain ⟨p, e, s, m, args, below, meth, c, A, Q, rfl, hx, hb, hml, hown, hts, hK, hA, hnm, hAO⟩ := X
  intro H locs ls hl hP hD hS
  exact lv_iload_n hx hb hd rfl (hl.get h0) (kk H locs ls hl hP hD hS)
theorem zr_iload (X : zOK G l R cc nL own nm D tys) {i : Nat} {x : Int32} (hd : decode cc pc = .ok (.iload i, 2)) (h0 : lv[i]? = some (some (.int x))) (kk : G k n (pc + 2) lv (.int x :: st) N q f) : G k n pc lv st N q f := by
  obtain ⟨p, e, s, m, args, below, meth, c, A, Q, rfl, hx, hb, hml, hown, hts, hK, hA, hnm, hAO⟩ := X
  intro H locs ls hl hP hD hS
  exact lv_iload hx hb hd (hl.get h0) (kk H locs ls hl hP hD hS)
theorem zr_istore_n (X : zOK G l R cc nL own nm D tys) {i : Fin 4} {x : Int32} {lv' : List (Option Value)} (hd : decode cc pc = .ok (.istore_n i, 1)) (hi : (i : Nat) < nL) (h0 : lv.set (i : Nat) (some (.int x)) = lv') (kk : G k n (pc + 1) lv' st N q f) : G k n pc lv (.int x :: st) N q f := by
  obtain ⟨p, e, s, m, args, below, meth, c, A, Q, rfl, hx, hb, hml, hown, hts, hK, hA, hnm, hAO⟩ := X
  intro H locs ls hl hP hD hS
  subst h0
  exact lv_istore_n hx hb hd rfl hl.has hi rfl (fun ls' h' => kk H locs ls' (hl.store hi rfl h') hP hD hS)
theorem zr_istore (X : zOK G l R cc nL own nm D tys) {i : Nat} {x : Int32} {lv' : List (Option Value)} (hd : decode cc pc = .ok (.istore i, 2)) (hi : i < nL) (h0 : lv.set i (some (.int x)) = lv') (kk : G k n (pc + 2) lv' st N q f) : G k n pc lv (.int x :: st) N q f := by
  obtain ⟨p, e, s, m, args, below, meth, c, A, Q, rfl, hx, hb, hml, hown, hts, hK, hA, hnm, hAO⟩ := X
  intro H locs ls hl hP hD hS
  subst h0
  exact lv_istore hx hb hd hl.has hi rfl (fun ls' h' => kk H locs ls' (hl.store hi rfl h') hP hD hS)
theorem zr_aload_n (X : zOK G l R cc nL own nm D tys) {i : Fin 4} {x : Nat} (hd : decode cc pc = .ok (.aload_n i, 1)) (h0 : lv[(i : Nat)]? = some (some (.ref x))) (kk : G k n (pc + 1) lv (.ref x :: st) N q f) : G k n pc lv st N q f := by
  obtain ⟨p, e, s, m, args, below, meth, c, A, Q, rfl, hx, hb, hml, hown, hts, hK, hA, hnm, hAO⟩ := X
  intro H locs ls hl hP hD hS
  exact lv_aload_n hx hb hd rfl (hl.get h0) (kk H locs ls hl hP hD hS)
theorem zr_aload (X : zOK G l R cc nL own nm D tys) {i : Nat} {x : Nat} (hd : decode cc pc = .ok (.aload i, 2)) (h0 : lv[i]? = some (some (.ref x))) (kk : G k n (pc + 2) lv (.ref x :: st) N q f) : G k n pc lv st N q f := by
  obtain ⟨p, e, s, m, args, below, meth, c, A, Q, rfl, hx, hb, hml, hown, hts, hK, hA, hnm, hAO⟩ := X
  intro H locs ls hl hP hD hS
  exact lv_aload hx hb hd (hl.get h0) (kk H locs ls hl hP hD hS)
theorem zr_astore_n (X : zOK G l R cc nL own nm D tys) {i : Fin 4} {x : Nat} {lv' : List (Option Value)} (hd : decode cc pc = .ok (.astore_n i, 1)) (hi : (i : Nat) < nL) (h0 : lv.set (i : Nat) (some (.ref x)) = lv') (kk : G k n (pc + 1) lv' st N q f) : G k n pc lv (.ref x :: st) N q f := by
  obtain ⟨p, e, s, m, args, below, meth, c, A, Q, rfl, hx, hb, hml, hown, hts, hK, hA, hnm, hAO⟩ := X
  intro H locs ls hl hP hD hS
  subst h0
  exact lv_astore_n hx hb hd rfl hl.has hi rfl (fun ls' h' => kk H locs ls' (hl.store hi rfl h') hP hD hS)
theorem zr_astore (X : zOK G l R cc nL own nm D tys) {i : Nat} {x : Nat} {lv' : List (Option Value)} (hd : decode cc pc = .ok (.astore i, 2)) (hi : i < nL) (h0 : lv.set i (some (.ref x)) = lv') (kk : G k n (pc + 2) lv' st N q f) : G k n pc lv (.ref x :: st) N q f := by
  obtain ⟨p, e, s, m, args, below, meth, c, A, Q, rfl, hx, hb, hml, hown, hts, hK, hA, hnm, hAO⟩ := X
  intro H locs ls hl hP hD hS
  subst h0
  exact lv_astore hx hb hd hl.has hi rfl (fun ls' h' => kk H locs ls' (hl.store hi rfl h') hP hD hS)
theorem zr_aload_nN (X : zOK G l R cc nL own nm D tys) {i : Fin 4} (hd : decode cc pc = .ok (.aload_n i, 1)) (h0 : lv[(i : Nat)]? = some (some .null)) (kk : G k n (pc + 1) lv (.null :: st) N q f) : G k n pc lv st N q f := by
  obtain ⟨p, e, s, m, args, below, meth, c, A, Q, rfl, hx, hb, hml, hown, hts, hK, hA, hnm, hAO⟩ := X
  intro H locs ls hl hP hD hS
  exact lv_aload_nN hx hb hd rfl (hl.get h0) (kk H locs ls hl hP hD hS)
theorem zr_aloadN (X : zOK G l R cc nL own nm D tys) {i : Nat} (hd : decode cc pc = .ok (.aload i, 2)) (h0 : lv[i]? = some (some .null)) (kk : G k n (pc + 2) lv (.null :: st) N q f) : G k n pc lv st N q f := by
  obtain ⟨p, e, s, m, args, below, meth, c, A, Q, rfl, hx, hb, hml, hown, hts, hK, hA, hnm, hAO⟩ := X
  intro H locs ls hl hP hD hS
  exact lv_aloadN hx hb hd (hl.get h0) (kk H locs ls hl hP hD hS)
theorem zr_astore_nN (X : zOK G l R cc nL own nm D tys) {i : Fin 4} {lv' : List (Option Value)} (hd : decode cc pc = .ok (.astore_n i, 1)) (hi : (i : Nat) < nL) (h0 : lv.set (i : Nat) (some .null) = lv') (kk : G k n (pc + 1) lv' st N q f) : G k n pc lv (.null :: st) N q f := by
  obtain ⟨p, e, s, m, args, below, meth, c, A, Q, rfl, hx, hb, hml, hown, hts, hK, hA, hnm, hAO⟩ := X
  intro H locs ls hl hP hD hS
  subst h0
  exact lv_astore_nN hx hb hd rfl hl.has hi rfl (fun ls' h' => kk H locs ls' (hl.store hi rfl h') hP hD hS)
theorem zr_astoreN (X : zOK G l R cc nL own nm D tys) {i : Nat} {lv' : List (Option Value)} (hd : decode cc pc = .ok (.astore i, 2)) (hi : i < nL) (h0 : lv.set i (some .null) = lv') (kk : G k n (pc + 2) lv' st N q f) : G k n pc lv (.null :: st) N q f := by
  obtain ⟨p, e, s, m, args, below, meth, c, A, Q, rfl, hx, hb, hml, hown, hts, hK, hA, hnm, hAO⟩ := X
  intro H locs ls hl hP hD hS
  subst h0
  exact lv_astoreN hx hb hd hl.has hi rfl (fun ls' h' => kk H locs ls' (hl.store hi rfl h') hP hD hS)
theorem zr_iinc (X : zOK G l R cc nL own nm D tys) {i : Nat} {d : Int} {x v : Int32} {lv' : List (Option Value)} (hd : decode cc pc = .ok (.iinc i d, 3)) (h1 : lv[i]? = some (some (.int x))) (hv : x + Int32.ofInt d = v) (hi : i < nL) (h0 : lv.set i (some (.int v)) = lv') (kk : G k n (pc + 3) lv' st N q f) : G k n pc lv st N q f := by
  obtain ⟨p, e, s, m, args, below, meth, c, A, Q, rfl, hx, hb, hml, hown, hts, hK, hA, hnm, hAO⟩ := X
  intro H locs ls hl hP hD hS
  subst h0
  obtain ⟨k0, hk0⟩ := List.getElem?_of_mem (zlvl_mem.mpr h1)
  exact lv_iinc hx hb hd hl.has hk0 hv hi rfl (fun ls' h' => kk H locs ls' (hl.store hi rfl h') hP hD hS)
theorem zr_iadd (X : zOK G l R cc nL own nm D tys) {x y z : Int32} (hd : decode cc pc = .ok (.iadd, 1)) (hz : x + y = z) (kk : G k n (pc + 1) lv (.int z :: st) N q f) : G k n pc lv (.int y :: .int x :: st) N q f := by
  obtain ⟨p, e, s, m, args, below, meth, c, A, Q, rfl, hx, hb, hml, hown, hts, hK, hA, hnm, hAO⟩ := X
  intro H locs ls hl hP hD hS
  subst hz
  exact lv_iadd hx hb hd (kk H locs ls hl hP hD hS)
theorem zr_isub (X : zOK G l R cc nL own nm D tys) {x y z : Int32} (hd : decode cc pc = .ok (.isub, 1)) (hz : x - y = z) (kk : G k n (pc + 1) lv (.int z :: st) N q f) : G k n pc lv (.int y :: .int x :: st) N q f := by
  obtain ⟨p, e, s, m, args, below, meth, c, A, Q, rfl, hx, hb, hml, hown, hts, hK, hA, hnm, hAO⟩ := X
  intro H locs ls hl hP hD hS
  subst hz
  exact lv_isub hx hb hd (kk H locs ls hl hP hD hS)
theorem zr_iand (X : zOK G l R cc nL own nm D tys) {x y z : Int32} (hd : decode cc pc = .ok (.iand, 1)) (hz : x &&& y = z) (kk : G k n (pc + 1) lv (.int z :: st) N q f) : G k n pc lv (.int y :: .int x :: st) N q f := by
  obtain ⟨p, e, s, m, args, below, meth, c, A, Q, rfl, hx, hb, hml, hown, hts, hK, hA, hnm, hAO⟩ := X
  intro H locs ls hl hP hD hS
  subst hz
  exact lv_iand hx hb hd (kk H locs ls hl hP hD hS)
theorem zr_i2c (X : zOK G l R cc nL own nm D tys) {x v : Int32} (hd : decode cc pc = .ok (.i2c, 1)) (hv : (x.toUInt32 % 65536).toInt32 = v) (kk : G k n (pc + 1) lv (.int v :: st) N q f) : G k n pc lv (.int x :: st) N q f := by
  obtain ⟨p, e, s, m, args, below, meth, c, A, Q, rfl, hx, hb, hml, hown, hts, hK, hA, hnm, hAO⟩ := X
  intro H locs ls hl hP hD hS
  exact lv_i2c hx hb hd hv (kk H locs ls hl hP hD hS)
theorem zr_dup (X : zOK G l R cc nL own nm D tys) {v : Value} (hd : decode cc pc = .ok (.dup, 1)) (hv : v.category = 1) (kk : G k n (pc + 1) lv (v :: v :: st) N q f) : G k n pc lv (v :: st) N q f := by
  obtain ⟨p, e, s, m, args, below, meth, c, A, Q, rfl, hx, hb, hml, hown, hts, hK, hA, hnm, hAO⟩ := X
  intro H locs ls hl hP hD hS
  exact lv_dup hx hb hd hv (kk H locs ls hl hP hD hS)
theorem zr_dup2 (X : zOK G l R cc nL own nm D tys) {v w : Value} (hd : decode cc pc = .ok (.dup2, 1)) (hv : v.category = 1) (hw : w.category = 1) (kk : G k n (pc + 1) lv (v :: w :: v :: w :: st) N q f) : G k n pc lv (v :: w :: st) N q f := by
  obtain ⟨p, e, s, m, args, below, meth, c, A, Q, rfl, hx, hb, hml, hown, hts, hK, hA, hnm, hAO⟩ := X
  intro H locs ls hl hP hD hS
  exact lv_dup2_11 hx hb hd hv hw (kk H locs ls hl hP hD hS)
theorem zr_goto (X : zOK G l R cc nL own nm D tys) {off : Int} {tgt : Nat} (hd : decode cc pc = .ok (.goto off, 3)) (ht : (pc : Int) + off = (tgt : Int)) (kk : G k n tgt lv st N q f) : G k n pc lv st N q f := by
  obtain ⟨p, e, s, m, args, below, meth, c, A, Q, rfl, hx, hb, hml, hown, hts, hK, hA, hnm, hAO⟩ := X
  intro H locs ls hl hP hD hS
  exact lv_goto hx hb hd ht (kk H locs ls hl hP hD hS)
theorem zr_if_eq (X : zOK G l R cc nL own nm D tys) {x : Int32} {off : Int} {tgt : Nat} (hd : decode cc pc = .ok (.ifCond .eq off, 3)) (ht : (pc : Int) + off = (tgt : Int)) (kt : x = 0 → G k n tgt lv st N q f) (kf : ¬ x = 0 → G k n (pc + 3) lv st N q f) : G k n pc lv (.int x :: st) N q f := by
  obtain ⟨p, e, s, m, args, below, meth, c, A, Q, rfl, hx, hb, hml, hown, hts, hK, hA, hnm, hAO⟩ := X
  intro H locs ls hl hP hD hS
  exact lv_if_eq hx hb hd ht (fun h => kt h H locs ls hl hP hD hS) (fun h => kf h H locs ls hl hP hD hS)
theorem zr_icmp_eq (X : zOK G l R cc nL own nm D tys) {x y : Int32} {off : Int} {tgt : Nat} (hd : decode cc pc = .ok (.if_icmp .eq off, 3)) (ht : (pc : Int) + off = (tgt : Int)) (kt : x = y → G k n tgt lv st N q f) (kf : ¬ x = y → G k n (pc + 3) lv st N q f) : G k n pc lv (.int y :: .int x :: st) N q f := by
  obtain ⟨p, e, s, m, args, below, meth, c, A, Q, rfl, hx, hb, hml, hown, hts, hK, hA, hnm, hAO⟩ := X
  intro H locs ls hl hP hD hS
  exact lv_icmp_eq hx hb hd ht (fun h => kt h H locs ls hl hP hD hS) (fun h => kf h H locs ls hl hP hD hS)
theorem zr_if_ne (X : zOK G l R cc nL own nm D tys) {x : Int32} {off : Int} {tgt : Nat} (hd : decode cc pc = .ok (.ifCond .ne off, 3)) (ht : (pc : Int) + off = (tgt : Int)) (kt : ¬ x = 0 → G k n tgt lv st N q f) (kf : x = 0 → G k n (pc + 3) lv st N q f) : G k n pc lv (.int x :: st) N q f := by
  obtain ⟨p, e, s, m, args, below, meth, c, A, Q, rfl, hx, hb, hml, hown, hts, hK, hA, hnm, hAO⟩ := X
  intro H locs ls hl hP hD hS
  exact lv_if_ne hx hb hd ht (fun h => kt h H locs ls hl hP hD hS) (fun h => kf h H locs ls hl hP hD hS)
theorem zr_icmp_ne (X : zOK G l R cc nL own nm D tys) {x y : Int32} {off : Int} {tgt : Nat} (hd : decode cc pc = .ok (.if_icmp .ne off, 3)) (ht : (pc : Int) + off = (tgt : Int)) (kt : ¬ x = y → G k n tgt lv st N q f) (kf : x = y → G k n (pc + 3) lv st N q f) : G k n pc lv (.int y :: .int x :: st) N q f := by
  obtain ⟨p, e, s, m, args, below, meth, c, A, Q, rfl, hx, hb, hml, hown, hts, hK, hA, hnm, hAO⟩ := X
  intro H locs ls hl hP hD hS
  exact lv_icmp_ne hx hb hd ht (fun h => kt h H locs ls hl hP hD hS) (fun h => kf h H locs ls hl hP hD hS)
theorem zr_if_lt (X : zOK G l R cc nL own nm D tys) {x : Int32} {off : Int} {tgt : Nat} (hd : decode cc pc = .ok (.ifCond .lt off, 3)) (ht : (pc : Int) + off = (tgt : Int)) (kt : x < 0 → G k n tgt lv st N q f) (kf : ¬ x < 0 → G k n (pc + 3) lv st N q f) : G k n pc lv (.int x :: st) N q f := by
  obtain ⟨p, e, s, m, args, below, meth, c, A, Q, rfl, hx, hb, hml, hown, hts, hK, hA, hnm, hAO⟩ := X
  intro H locs ls hl hP hD hS
  exact lv_if_lt hx hb hd ht (fun h => kt h H locs ls hl hP hD hS) (fun h => kf h H locs ls hl hP hD hS)
theorem zr_icmp_lt (X : zOK G l R cc nL own nm D tys) {x y : Int32} {off : Int} {tgt : Nat} (hd : decode cc pc = .ok (.if_icmp .lt off, 3)) (ht : (pc : Int) + off = (tgt : Int)) (kt : x < y → G k n tgt lv st N q f) (kf : ¬ x < y → G k n (pc + 3) lv st N q f) : G k n pc lv (.int y :: .int x :: st) N q f := by
  obtain ⟨p, e, s, m, args, below, meth, c, A, Q, rfl, hx, hb, hml, hown, hts, hK, hA, hnm, hAO⟩ := X
  intro H locs ls hl hP hD hS
  exact lv_icmp_lt hx hb hd ht (fun h => kt h H locs ls hl hP hD hS) (fun h => kf h H locs ls hl hP hD hS)
theorem zr_if_ge (X : zOK G l R cc nL own nm D tys) {x : Int32} {off : Int} {tgt : Nat} (hd : decode cc pc = .ok (.ifCond .ge off, 3)) (ht : (pc : Int) + off = (tgt : Int)) (kt : 0 ≤ x → G k n tgt lv st N q f) (kf : ¬ 0 ≤ x → G k n (pc + 3) lv st N q f) : G k n pc lv (.int x :: st) N q f := by
  obtain ⟨p, e, s, m, args, below, meth, c, A, Q, rfl, hx, hb, hml, hown, hts, hK, hA, hnm, hAO⟩ := X
  intro H locs ls hl hP hD hS
  exact lv_if_ge hx hb hd ht (fun h => kt h H locs ls hl hP hD hS) (fun h => kf h H locs ls hl hP hD hS)
theorem zr_icmp_ge (X : zOK G l R cc nL own nm D tys) {x y : Int32} {off : Int} {tgt : Nat} (hd : decode cc pc = .ok (.if_icmp .ge off, 3)) (ht : (pc : Int) + off = (tgt : Int)) (kt : y ≤ x → G k n tgt lv st N q f) (kf : ¬ y ≤ x → G k n (pc + 3) lv st N q f) : G k n pc lv (.int y :: .int x :: st) N q f := by
  obtain ⟨p, e, s, m, args, below, meth, c, A, Q, rfl, hx, hb, hml, hown, hts, hK, hA, hnm, hAO⟩ := X
  intro H locs ls hl hP hD hS
  exact lv_icmp_ge hx hb hd ht (fun h => kt h H locs ls hl hP hD hS) (fun h => kf h H locs ls hl hP hD hS)
theorem zr_if_gt (X : zOK G l R cc nL own nm D tys) {x : Int32} {off : Int} {tgt : Nat} (hd : decode cc pc = .ok (.ifCond .gt off, 3)) (ht : (pc : Int) + off = (tgt : Int)) (kt : 0 < x → G k n tgt lv st N q f) (kf : ¬ 0 < x → G k n (pc + 3) lv st N q f) : G k n pc lv (.int x :: st) N q f := by
  obtain ⟨p, e, s, m, args, below, meth, c, A, Q, rfl, hx, hb, hml, hown, hts, hK, hA, hnm, hAO⟩ := X
  intro H locs ls hl hP hD hS
  exact lv_if_gt hx hb hd ht (fun h => kt h H locs ls hl hP hD hS) (fun h => kf h H locs ls hl hP hD hS)
theorem zr_icmp_gt (X : zOK G l R cc nL own nm D tys) {x y : Int32} {off : Int} {tgt : Nat} (hd : decode cc pc = .ok (.if_icmp .gt off, 3)) (ht : (pc : Int) + off = (tgt : Int)) (kt : y < x → G k n tgt lv st N q f) (kf : ¬ y < x → G k n (pc + 3) lv st N q f) : G k n pc lv (.int y :: .int x :: st) N q f := by
  obtain ⟨p, e, s, m, args, below, meth, c, A, Q, rfl, hx, hb, hml, hown, hts, hK, hA, hnm, hAO⟩ := X
  intro H locs ls hl hP hD hS
  exact lv_icmp_gt hx hb hd ht (fun h => kt h H locs ls hl hP hD hS) (fun h => kf h H locs ls hl hP hD hS)
theorem zr_if_le (X : zOK G l R cc nL own nm D tys) {x : Int32} {off : Int} {tgt : Nat} (hd : decode cc pc = .ok (.ifCond .le off, 3)) (ht : (pc : Int) + off = (tgt : Int)) (kt : x ≤ 0 → G k n tgt lv st N q f) (kf : ¬ x ≤ 0 → G k n (pc + 3) lv st N q f) : G k n pc lv (.int x :: st) N q f := by
  obtain ⟨p, e, s, m, args, below, meth, c, A, Q, rfl, hx, hb, hml, hown, hts, hK, hA, hnm, hAO⟩ := X
  intro H locs ls hl hP hD hS
  exact lv_if_le hx hb hd ht (fun h => kt h H locs ls hl hP hD hS) (fun h => kf h H locs ls hl hP hD hS)
theorem zr_icmp_le (X : zOK G l R cc nL own nm D tys) {x y : Int32} {off : Int} {tgt : Nat} (hd : decode cc pc = .ok (.if_icmp .le off, 3)) (ht : (pc : Int) + off = (tgt : Int)) (kt : x ≤ y → G k n tgt lv st N q f) (kf : ¬ x ≤ y → G k n (pc + 3) lv st N q f) : G k n pc lv (.int y :: .int x :: st) N q f := by
  obtain ⟨p, e, s, m, args, below, meth, c, A, Q, rfl, hx, hb, hml, hown, hts, hK, hA, hnm, hAO⟩ := X
  intro H locs ls hl hP hD hS
  exact lv_icmp_le hx hb hd ht (fun h => kt h H locs ls hl hP hD hS) (fun h => kf h H locs ls hl hP hD hS)
theorem zr_acmp_eq (X : zOK G l R cc nL own nm D tys) {a b : Nat} {off : Int} {tgt : Nat} (hd : decode cc pc = .ok (.if_acmp .eq off, 3)) (ht : (pc : Int) + off = (tgt : Int)) (kt : a = b → G k n tgt lv st N q f) (kf : ¬ a = b → G k n (pc + 3) lv st N q f) : G k n pc lv (.ref b :: .ref a :: st) N q f := by
  obtain ⟨p, e, s, m, args, below, meth, c, A, Q, rfl, hx, hb, hml, hown, hts, hK, hA, hnm, hAO⟩ := X
  intro H locs ls hl hP hD hS
  exact lv_acmp_eq (rx := some a) (ry := some b) hx hb hd ht (fun h => kt (Option.some.inj h) H locs ls hl hP hD hS) (fun h => kf (fun h9 => h (by rw [h9])) H locs ls hl hP hD hS)
theorem zr_ifnonnull (X : zOK G l R cc nL own nm D tys) {x : Nat} {off : Int} {tgt : Nat} (hd : decode cc pc = .ok (.ifnonnull off, 3)) (ht : (pc : Int) + off = (tgt : Int)) (kk : G k n tgt lv st N q f) : G k n pc lv (.ref x :: st) N q f := by
  obtain ⟨p, e, s, m, args, below, meth, c, A, Q, rfl, hx, hb, hml, hown, hts, hK, hA, hnm, hAO⟩ := X
  intro H locs ls hl hP hD hS
  exact lv_ifnonnull hx hb hd ht (kk H locs ls hl hP hD hS)
theorem zr_ifnonnullN (X : zOK G l R cc nL own nm D tys) {off : Int} (hd : decode cc pc = .ok (.ifnonnull off, 3)) (kk : G k n (pc + 3) lv st N q f) : G k n pc lv (.null :: st) N q f := by
  obtain ⟨p, e, s, m, args, below, meth, c, A, Q, rfl, hx, hb, hml, hown, hts, hK, hA, hnm, hAO⟩ := X
  intro H locs ls hl hP hD hS
  exact lv_ifnonnullN hx hb hd (kk H locs ls hl hP hD hS)
theorem zr_ifnull (X : zOK G l R cc nL own nm D tys) {x : Nat} {off : Int} (hd : decode cc pc = .ok (.ifnull off, 3)) (kk : G k n (pc + 3) lv st N q f) : G k n pc lv (.ref x :: st) N q f := by
  obtain ⟨p, e, s, m, args, below, meth, c, A, Q, rfl, hx, hb, hml, hown, hts, hK, hA, hnm, hAO⟩ := X
  intro H locs ls hl hP hD hS
  exact lv_ifnull hx hb hd (kk H locs ls hl hP hD hS)
theorem zr_ifnullN (X : zOK G l R cc nL own nm D tys) {off : Int} {tgt : Nat} (hd : decode cc pc = .ok (.ifnull off, 3)) (ht : (pc : Int) + off = (tgt : Int)) (kk : G k n tgt lv st N q f) : G k n pc lv (.null :: st) N q f := by
  obtain ⟨p, e, s, m, args, below, meth, c, A, Q, rfl, hx, hb, hml, hown, hts, hK, hA, hnm, hAO⟩ := X
  intro H locs ls hl hP hD hS
  exact lv_ifnullN hx hb hd ht (kk H locs ls hl hP hD hS)
/-- what the tables say of a field that an instruction of class own names: place in its class, its type -/
def zFd (own : String) (index ci kf : Nat) (ty : FieldType) (fin w : Bool) : Prop := ∃ (C : String) (T : u_T) (NF : Nat) (tt : Nat → FieldType), zCl[ci]? = some (C, T, NF) ∧ kf < NF ∧ Cond.fieldLink own index (T kf).1 (T kf).2.1 (T kf).2.2.1 ∈ zAll ∧ (∀ w ∈ u_ws C T NF, w ∈ zAll) ∧ (∀ k, k < NF → parseFieldDescriptor (T k).2.2.1 = some (tt k)) ∧ (∀ a, a < NF → ∀ b, b < NF → a ≠ b → (T a).2.1 ≠ (T b).2.1) ∧ tt kf = ty ∧ (T kf).2.2.2 = fin ∧ (w = true → (T kf).1 = own)
theorem zr_get (X : zOK G l R cc nL own nm D tys) {index ci kf : Nat} {ty : FieldType} {fin w : Bool} (F : zFd own index ci kf ty fin w) {j : Nat} {fs : List Value} {v : Value} (hd : decode cc pc = .ok (.getfield index, 3)) (hj : j < N) (hf : f j = .inr (ci, fs)) (hv : fs[kf]? = some v) (kk : G k n (pc + 3) lv (v :: st) N q f) : G k n pc lv (.ref (q j) :: st) N q f := by
  obtain ⟨p, e, s, m, args, below, meth, c, A, Q, rfl, hx, hb, hml, hown, hts, hK, hA, hnm, hAO⟩ := X
  intro H locs ls hl hP hD hS
  obtain ⟨C, T, NF, tt, h1, h2, h3, h4, h5, h6, h7, h8, h9⟩ := F
  exact va_get hx hb hts h4 hown hK hP j (zl_at hj hf) h1 kf h2 (hts _ h3) (fun _ h => h) hv hd (kk H locs ls hl hP hD hS)
theorem zr_put (X : zOK G l R cc nL own nm D tys) {index ci kf : Nat} {ty : FieldType} {w : Bool} (F : zFd own index ci kf ty false w) {j : Nat} {fs fs' : List Value} {v : Value} (hd : decode cc pc = .ok (.putfield index, 3)) (hj : j < N) (hf : f j = .inr (ci, fs)) (hn : narrow ty v = v) (hfit : fits ty v = true) (hlen : kf < fs.length) (hs : fs.set kf v = fs') (kk : G k n (pc + 3) lv st N q (va_up f j (.inr (ci, fs')))) : G k n pc lv (v :: .ref (q j) :: st) N q f := by
  obtain ⟨p, e, s, m, args, below, meth, c, A, Q, rfl, hx, hb, hml, hown, hts, hK, hA, hnm, hAO⟩ := X
  intro H locs ls hl hP hD hS
  obtain ⟨C, T, NF, tt, h1, h2, h3, h4, h5, h6, h7, h8, h9⟩ := F
  subst hs
  subst h7
  refine va_put hx hb hts h4 tt h5 h6 hown hK hP hD hS j (zl_at hj hf) h1 kf h2 (hts _ h3) (fun _ h => h) h8 (h5 kf h2) hn hfit hlen hd (fun H1 locs1 hP1 hD1 hS1 => ?_)
  rw [zl_set] at hP1 hD1
  exact kk H1 locs1 ls hl hP1 hD1 hS1
theorem zr_putF (X : zOK G l R cc nL own nm D tys) {index ci kf : Nat} {ty : FieldType} (F : zFd own index ci kf ty true true) (hi : nm = "<init>") {j : Nat} {fs fs' : List Value} {v : Value} (hd : decode cc pc = .ok (.putfield index, 3)) (hj : j < N) (hf : f j = .inr (ci, fs)) (hn : narrow ty v = v) (hfit : fits ty v = true) (hlen : kf < fs.length) (hs : fs.set kf v = fs') (kk : G k n (pc + 3) lv st N q (va_up f j (.inr (ci, fs')))) : G k n pc lv (v :: .ref (q j) :: st) N q f := by
  obtain ⟨p, e, s, m, args, below, meth, c, A, Q, rfl, hx, hb, hml, hown, hts, hK, hA, hnm, hAO⟩ := X
  intro H locs ls hl hP hD hS
  obtain ⟨C, T, NF, tt, h1, h2, h3, h4, h5, h6, h7, h8, h9⟩ := F
  subst hs
  subst h7
  refine va_putF hx hb hts h4 tt h5 h6 hown hK hP hD hS j (zl_at hj hf) h1 kf h2 (hts _ h3) (fun _ h => h) h8 (hnm.trans hi) (h9 rfl) (h5 kf h2) hn hfit hlen hd (fun H1 locs1 hP1 hD1 hS1 => ?_)
  rw [zl_set] at hP1 hD1
  exact kk H1 locs1 ls hl hP1 hD1 hS1
theorem zr_iaload (X : zOK G l R cc nL own nm D tys) (t : Nat) {j a len : Nat} {cA : ClassId} {g : Nat → Int32} {v : Int32} (hd : decode cc pc = .ok (.iaload, 1)) (hj : j < N) (hf : f j = .inl (cA, len, .inl g)) (ht : tys[t]? = some (cA, .int)) (ha : a < len) (hL : len < 2 ^ 31) (hv : g a = v) (kk : G k n (pc + 1) lv (.int v :: st) N q f) : G k n pc lv (.int (nI a) :: .ref (q j) :: st) N q f := by
  obtain ⟨p, e, s, m, args, below, meth, c, A, Q, rfl, hx, hb, hml, hown, hts, hK, hA, hnm, hAO⟩ := X
  intro H locs ls hl hP hD hS
  subst hv
  refine va_iald hx hb hK hP j t (zl_at hj hf) ht (vp_in_nI ha hL) hd ?_
  rw [nI_clamp (Nat.lt_trans ha hL)]
  exact (kk H locs ls hl hP hD hS)
theorem zr_caload (X : zOK G l R cc nL own nm D tys) (t : Nat) {j a len : Nat} {cA : ClassId} {g : Nat → Int32} {v : Int32} (hd : decode cc pc = .ok (.caload, 1)) (hj : j < N) (hf : f j = .inl (cA, len, .inl g)) (ht : tys[t]? = some (cA, .char)) (ha : a < len) (hL : len < 2 ^ 31) (hv : g a = v) (kk : G k n (pc + 1) lv (.int v :: st) N q f) : G k n pc lv (.int (nI a) :: .ref (q j) :: st) N q f := by
  obtain ⟨p, e, s, m, args, below, meth, c, A, Q, rfl, hx, hb, hml, hown, hts, hK, hA, hnm, hAO⟩ := X
  intro H locs ls hl hP hD hS
  subst hv
  refine va_cald hx hb hK hP j t (zl_at hj hf) ht (vp_in_nI ha hL) hd ?_
  rw [nI_clamp (Nat.lt_trans ha hL)]
  exact (kk H locs ls hl hP hD hS)
theorem zr_baload (X : zOK G l R cc nL own nm D tys) (t : Nat) {j a len : Nat} {cA : ClassId} {g : Nat → Int32} {v : Int32} (hd : decode cc pc = .ok (.baload, 1)) (hj : j < N) (hf : f j = .inl (cA, len, .inl g)) (ht : tys[t]? = some (cA, .boolean)) (ha : a < len) (hL : len < 2 ^ 31) (hv : g a = v) (kk : G k n (pc + 1) lv (.int v :: st) N q f) : G k n pc lv (.int (nI a) :: .ref (q j) :: st) N q f := by
  obtain ⟨p, e, s, m, args, below, meth, c, A, Q, rfl, hx, hb, hml, hown, hts, hK, hA, hnm, hAO⟩ := X
  intro H locs ls hl hP hD hS
  subst hv
  refine va_zald hx hb hK hP j t (zl_at hj hf) ht (vp_in_nI ha hL) hd ?_
  rw [nI_clamp (Nat.lt_trans ha hL)]
  exact (kk H locs ls hl hP hD hS)
theorem zr_iastore (X : zOK G l R cc nL own nm D tys) (t : Nat) {j a len : Nat} {cA : ClassId} {g : Nat → Int32} {x : Int32} (hd : decode cc pc = .ok (.iastore, 1)) (hj : j < N) (hf : f j = .inl (cA, len, .inl g)) (ht : tys[t]? = some (cA, .int)) (ha : a < len) (hL : len < 2 ^ 31) (kk : G k n (pc + 1) lv st N q (va_up f j (.inl (cA, len, .inl (upd g a x))))) : G k n pc lv (.int x :: .int (nI a) :: .ref (q j) :: st) N q f := by
  obtain ⟨p, e, s, m, args, below, meth, c, A, Q, rfl, hx, hb, hml, hown, hts, hK, hA, hnm, hAO⟩ := X
  intro H locs ls hl hP hD hS
  refine va_iast hx hb hK hP hD hS j t (zl_at hj hf) ht (vp_in_nI ha hL) hd (fun H1 locs1 hP1 hD1 hS1 => ?_)
  rw [nI_clamp (Nat.lt_trans ha hL), zl_set] at hP1 hD1
  exact kk H1 locs1 ls hl hP1 hD1 hS1
theorem zr_castore (X : zOK G l R cc nL own nm D tys) (t : Nat) {j a len : Nat} {cA : ClassId} {g : Nat → Int32} {x : Int32} (hd : decode cc pc = .ok (.castore, 1)) (hj : j < N) (hf : f j = .inl (cA, len, .inl g)) (ht : tys[t]? = some (cA, .char)) (ha : a < len) (hL : len < 2 ^ 31) (hx1 : vp_nar .char x = x) (kk : G k n (pc + 1) lv st N q (va_up f j (.inl (cA, len, .inl (upd g a x))))) : G k n pc lv (.int x :: .int (nI a) :: .ref (q j) :: st) N q f := by
  obtain ⟨p, e, s, m, args, below, meth, c, A, Q, rfl, hx, hb, hml, hown, hts, hK, hA, hnm, hAO⟩ := X
  intro H locs ls hl hP hD hS
  refine va_cast hx hb hK hP hD hS j t (zl_at hj hf) ht (vp_in_nI ha hL) hd (fun H1 locs1 hP1 hD1 hS1 => ?_)
  rw [nI_clamp (Nat.lt_trans ha hL), hx1, zl_set] at hP1 hD1
  exact kk H1 locs1 ls hl hP1 hD1 hS1
theorem zr_bastore (X : zOK G l R cc nL own nm D tys) (t : Nat) {j a len : Nat} {cA : ClassId} {g : Nat → Int32} {x : Int32} (hd : decode cc pc = .ok (.bastore, 1)) (hj : j < N) (hf : f j = .inl (cA, len, .inl g)) (ht : tys[t]? = some (cA, .boolean)) (ha : a < len) (hL : len < 2 ^ 31) (hx1 : vp_nar .boolean x = x) (kk : G k n (pc + 1) lv st N q (va_up f j (.inl (cA, len, .inl (upd g a x))))) : G k n pc lv (.int x :: .int (nI a) :: .ref (q j) :: st) N q f := by
  obtain ⟨p, e, s, m, args, below, meth, c, A, Q, rfl, hx, hb, hml, hown, hts, hK, hA, hnm, hAO⟩ := X
  intro H locs ls hl hP hD hS
  refine va_zast hx hb hK hP hD hS j t (zl_at hj hf) ht (vp_in_nI ha hL) hd (fun H1 locs1 hP1 hD1 hS1 => ?_)
  rw [nI_clamp (Nat.lt_trans ha hL), hx1, zl_set] at hP1 hD1
  exact kk H1 locs1 ls hl hP1 hD1 hS1
theorem zr_aaload (X : zOK G l R cc nL own nm D tys) (t : Nat) {j a len : Nat} {cA : ClassId} {C : String} {g : Nat → Option Nat} {v : Option Nat} (hd : decode cc pc = .ok (.aaload, 1)) (hj : j < N) (hf : f j = .inl (cA, len, .inr (.inr (.inr (.inr g))))) (ht : tys[t]? = some (cA, .object C)) (ha : a < len) (hL : len < 2 ^ 31) (hv : g a = v) (kk : G k n (pc + 1) lv (va_rf v :: st) N q f) : G k n pc lv (.int (nI a) :: .ref (q j) :: st) N q f := by
  obtain ⟨p, e, s, m, args, below, meth, c, A, Q, rfl, hx, hb, hml, hown, hts, hK, hA, hnm, hAO⟩ := X
  intro H locs ls hl hP hD hS
  subst hv
  refine va_aldq hx hb hK hP j t (zl_at hj hf) ht (vp_in_nI ha hL) hd ?_
  rw [nI_clamp (Nat.lt_trans ha hL)]
  exact (kk H locs ls hl hP hD hS)
theorem zr_aastore (X : zOK G l R cc nL own nm D tys) (t : Nat) {j a len j2 ci : Nat} {cA : ClassId} {r : vw_C} {fs : List Value} {g : Nat → Option Nat} (hd : decode cc pc = .ok (.aastore, 1)) (hj : j < N) (hf : f j = .inl (cA, len, .inr (.inr (.inr (.inr g))))) (ht : tys[t]? = some (cA, .object r.1)) (ha : a < len) (hL : len < 2 ^ 31) (hj2 : j2 < N) (hf2 : f j2 = .inr (ci, fs)) (hc : zCl[ci]? = some r) (kk : G k n (pc + 1) lv st N q (va_up f j (.inl (cA, len, .inr (.inr (.inr (.inr (va_up g a (some (q j2)))))))))) : G k n pc lv (.ref (q j2) :: .int (nI a) :: .ref (q j) :: st) N q f := by
  obtain ⟨p, e, s, m, args, below, meth, c, A, Q, rfl, hx, hb, hml, hown, hts, hK, hA, hnm, hAO⟩ := X
  intro H locs ls hl hP hD hS
  refine va_astq hx hb hK hP hD hS j t j2 ci (zl_at hj hf) ht (zl_at hj2 hf2) hc (vp_in_nI ha hL) hd (fun H1 locs1 hP1 hD1 hS1 => ?_)
  rw [nI_clamp (Nat.lt_trans ha hL), zl_set] at hP1 hD1
  exact kk H1 locs1 ls hl hP1 hD1 hS1
theorem zr_alen (X : zOK G l R cc nL own nm D tys) (t : Nat) {j len : Nat} {cA : ClassId} {ty : FieldType} {g : (Nat → Int32) ⊕ (Nat → Int64) ⊕ (Nat → UInt32) ⊕ (Nat → UInt64) ⊕ (Nat → Option Nat)} (hd : decode cc pc = .ok (.arraylength, 1)) (hj : j < N) (hf : f j = .inl (cA, len, g)) (ht : tys[t]? = some (cA, ty)) (kk : G k n (pc + 1) lv (.int (nI len) :: st) N q f) : G k n pc lv (.ref (q j) :: st) N q f := by
  obtain ⟨p, e, s, m, args, below, meth, c, A, Q, rfl, hx, hb, hml, hown, hts, hK, hA, hnm, hAO⟩ := X
  intro H locs ls hl hP hD hS
  exact va_alen hx hb hK hP j t (zl_at hj hf) ht rfl hd (kk H locs ls hl hP hD hS)
theorem z_cls {U : State} {D : va_G} {cA cB : ClassId} {ty : FieldType} {tys : List (ClassId × FieldType)} {t : Nat} (hK : va_K D zCl (tys ++ [(cB, ty)]) U) (ht : tys[t]? = some (cA, ty)) : cB = cA := by
  have h1 := (hK.2 t (cA, ty) (by rw [List.getElem?_append_left (List.getElem?_eq_some_iff.mp ht).1]; exact ht)).2
  have h2 := (hK.2 tys.length (cB, ty) (by simp)).2
  cases ty with
  | object C =>
    obtain ⟨_, _, _, _, _, e1⟩ := h1
    obtain ⟨_, _, _, _, _, e2⟩ := h2
    exact Option.some.inj (e2.symm.trans e1)
  | _ => exact Option.some.inj (Eq.trans (Eq.symm h2) h1)
theorem zr_newaI (X : zOK G l R cc nL own nm D tys) (t : Nat) {len : Nat} {cA : ClassId} (hd : decode cc pc = .ok (.newarray .int, 2)) (hw : Cond.arrayClass .int ∈ zAll) (ht : tys[t]? = some (cA, .int)) (hL : len < 2 ^ 20) (hc : k + 1 ≤ R.cells) (hs : n + len ≤ R.slots) (kk : ∀ a : Nat, G (k + 1) (n + len) (pc + 2) lv (.ref a :: st) (N + 1) (va_up q N a) (va_up f N (.inl (cA, len, .inl (fun _ => 0))))) : G k n pc lv (.int (nI len) :: st) N q f := by
  obtain ⟨p, e, s, m, args, below, meth, c, A, Q, rfl, hx, hb, hml, hown, hts, hK, hA, hnm, hAO⟩ := X
  intro H locs ls hl hP hD hS
  have hL2 : len < 2 ^ 31 := Nat.lt_trans hL (by decide)
  refine va_newa (atype := .int) (ty := .int) (a0 := (len, .inl (fun _ => 0))) hx hb (hts _ hw) rfl hK hP hD hS hA (fun _ => rfl) (nI_pos hL2) (nI_clamp hL2) (by show len * _ ≤ _; simp [componentBytes]; omega) hc hs hd (fun a cB H1 hK1 hP1 hD1 hS1 => ?_)
  have hcl := z_cls hK1 ht
  subst hcl
  rw [zl_push] at hP1 hD1
  exact kk a H1 locs ls hl hP1 hD1 hS1
theorem zr_newaC (X : zOK G l R cc nL own nm D tys) (t : Nat) {len : Nat} {cA : ClassId} (hd : decode cc pc = .ok (.newarray .char, 2)) (hw : Cond.arrayClass .char ∈ zAll) (ht : tys[t]? = some (cA, .char)) (hL : len < 2 ^ 20) (hc : k + 1 ≤ R.cells) (hs : n + len ≤ R.slots) (kk : ∀ a : Nat, G (k + 1) (n + len) (pc + 2) lv (.ref a :: st) (N + 1) (va_up q N a) (va_up f N (.inl (cA, len, .inl (fun _ => 0))))) : G k n pc lv (.int (nI len) :: st) N q f := by
  obtain ⟨p, e, s, m, args, below, meth, c, A, Q, rfl, hx, hb, hml, hown, hts, hK, hA, hnm, hAO⟩ := X
  intro H locs ls hl hP hD hS
  have hL2 : len < 2 ^ 31 := Nat.lt_trans hL (by decide)
  refine va_newa (atype := .char) (ty := .char) (a0 := (len, .inl (fun _ => 0))) hx hb (hts _ hw) rfl hK hP hD hS hA (fun _ => rfl) (nI_pos hL2) (nI_clamp hL2) (by show len * _ ≤ _; simp [componentBytes]; omega) hc hs hd (fun a cB H1 hK1 hP1 hD1 hS1 => ?_)
  have hcl := z_cls hK1 ht
  subst hcl
  rw [zl_push] at hP1 hD1
  exact kk a H1 locs ls hl hP1 hD1 hS1
theorem zr_newaZ (X : zOK G l R cc nL own nm D tys) (t : Nat) {len : Nat} {cA : ClassId} (hd : decode cc pc = .ok (.newarray .boolean, 2)) (hw : Cond.arrayClass .boolean ∈ zAll) (ht : tys[t]? = some (cA, .boolean)) (hL : len < 2 ^ 20) (hc : k + 1 ≤ R.cells) (hs : n + len ≤ R.slots) (kk : ∀ a : Nat, G (k + 1) (n + len) (pc + 2) lv (.ref a :: st) (N + 1) (va_up q N a) (va_up f N (.inl (cA, len, .inl (fun _ => 0))))) : G k n pc lv (.int (nI len) :: st) N q f := by
  obtain ⟨p, e, s, m, args, below, meth, c, A, Q, rfl, hx, hb, hml, hown, hts, hK, hA, hnm, hAO⟩ := X
  intro H locs ls hl hP hD hS
  have hL2 : len < 2 ^ 31 := Nat.lt_trans hL (by decide)
  refine va_newa (atype := .boolean) (ty := .boolean) (a0 := (len, .inl (fun _ => 0))) hx hb (hts _ hw) rfl hK hP hD hS hA (fun _ => rfl) (nI_pos hL2) (nI_clamp hL2) (by show len * _ ≤ _; simp [componentBytes]; omega) hc hs hd (fun a cB H1 hK1 hP1 hD1 hS1 => ?_)
  have hcl := z_cls hK1 ht
  subst hcl
  rw [zl_push] at hP1 hD1
  exact kk a H1 locs ls hl hP1 hD1 hS1
theorem zr_anew (X : zOK G l R cc nL own nm D tys) (t : Nat) {len index : Nat} {cA : ClassId} {C : String} (hd : decode cc pc = .ok (.anewarray index, 3)) (hw1 : Cond.classLink own index C ∈ zAll) (hC : C = "BranchingText$Version") (ht : tys[t]? = some (cA, .object C)) (hL : len < 2 ^ 20) (hc : k + 1 ≤ R.cells) (hs : n + len ≤ R.slots) (kk : ∀ a : Nat, G (k + 1) (n + len) (pc + 3) lv (.ref a :: st) (N + 1) (va_up q N a) (va_up f N (.inl (cA, len, .inr (.inr (.inr (.inr (fun _ => none)))))))) : G k n pc lv (.int (nI len) :: st) N q f := by
  obtain ⟨p, e, s, m, args, below, meth, c, A, Q, rfl, hx, hb, hml, hown, hts, hK, hA, hnm, hAO⟩ := X
  intro H locs ls hl hP hD hS
  have hL2 : len < 2 ^ 31 := Nat.lt_trans hL (by decide)
  refine va_newq (C := C) hx hb hown (hts _ hw1) (by rw [hC]; exact hAO) hK hP hD hS hA (nI_pos hL2) (nI_clamp hL2) (by omega) hc hs hd (fun a cB H1 hK1 hP1 hD1 hS1 => ?_)
  have hcl := z_cls hK1 ht
  subst hcl
  rw [zl_push] at hP1 hD1
  exact kk a H1 locs ls hl hP1 hD1 hS1
def zNw (own : String) (index ci NF : Nat) (fs : List Value) : Prop := ∃ (C : String) (T : u_T) (tt : Nat → FieldType), zCl[ci]? = some (C, T, NF) ∧ Cond.classLink own index C ∈ zAll ∧ Cond.instantiable C NF ∈ zAll ∧ Cond.initialized C ∈ zAll ∧ (∀ w ∈ u_ws C T NF, w ∈ zAll) ∧ (∀ k, k < NF → parseFieldDescriptor (T k).2.2.1 = some (tt k)) ∧ (∀ j, j < NF → defaultValue (tt j) = vp_V fs j)
theorem zr_new (X : zOK G l R cc nL own nm D tys) {index ci NF : Nat} {fs : List Value} (F : zNw own index ci NF fs) (hd : decode cc pc = .ok (.new index, 3)) (hc : k + 1 ≤ R.cells) (hs : n + NF ≤ R.slots) (kk : ∀ a : Nat, G (k + 1) (n + NF) (pc + 3) lv (.ref a :: st) (N + 1) (va_up q N a) (va_up f N (.inr (ci, fs)))) : G k n pc lv st N q f := by
  obtain ⟨p, e, s, m, args, below, meth, c, A, Q, rfl, hx, hb, hml, hown, hts, hK, hA, hnm, hAO⟩ := X
  intro H locs ls hl hP hD hS
  obtain ⟨C, T, tt, h1, h2, h3, h4, h5, h6, h7⟩ := F
  refine va_new hx hb hts h5 tt h6 hown (hts _ h2) (hts _ h3) (hts _ h4) hK hP hD hS hA h1 h7 hc hs hd (fun a H1 hP1 hD1 hS1 => ?_)
  rw [zl_push] at hP1 hD1
  exact kk a H1 locs ls hl hP1 hD1 hS1
theorem zr_same (X : zOK G l R cc nL own nm D tys) {lv' : List (Option Value)} {st' : List Value} (h1 : lv = lv') (h2 : st = st') (kk : G k n pc lv' st' N q f) : G k n pc lv st N q f := by
  subst h1; subst h2; exact kk
def zAc (own : String) (index : Nat) : Prop := Cond.methodLink own index arraycopyName ∈ zAll ∧ Cond.native arraycopyName ∈ zAll ∧ Cond.static arraycopyName ∈ zAll ∧ Cond.initialized "java/lang/System" ∈ zAll
theorem zr_copy (X : zOK G l R cc nL own nm D tys) {index : Nat} (F : zAc own index) (t : Nat) {j0 j1 n0 n1 sp dp cnt : Nat} {cA : ClassId} {g0 g1 : Nat → Int32} (hd : decode cc pc = .ok (.invokestatic index, 3)) (hj0 : j0 < N) (hj1 : j1 < N) (hf0 : f j0 = .inl (cA, n0, .inl g0)) (hf1 : f j1 = .inl (cA, n1, .inl g1)) (ht : tys[t]? = some (cA, .char)) (h4 : sp + cnt ≤ n0) (h5 : dp + cnt ≤ n1) (hL0 : n0 < 2 ^ 31) (hL1 : n1 < 2 ^ 31) (hfit : ∀ i, i < cnt → fits .char (.int (g0 (sp + i))) = true) (hR1 : 1 ≤ R.frames) (hR2 : (st.map fun v => v.category).sum + (nativeFrameWords "java/lang/System" "arraycopy" 5 + 11) ≤ R.locals) (kk : G k n (pc + 3) lv st N q (va_up f j1 (.inl (cA, n1, .inl (va_cpy g0 g1 sp dp cnt))))) : G k n pc lv (.int (nI cnt) :: .int (nI dp) :: .ref (q j1) :: .int (nI sp) :: .ref (q j0) :: st) N q f := by
  obtain ⟨p, e, s, m, args, below, meth, c, A, Q, rfl, hx, hb, hml, hown, hts, hK, hA, hnm, hAO⟩ := X
  intro H locs ls hl hP hD hS
  obtain ⟨w1, w2, w3, w4⟩ := F
  have c1 : (nI sp).toNatClampNeg = sp := nI_clamp (by omega)
  have c2 : (nI dp).toNatClampNeg = dp := nI_clamp (by omega)
  have c3 : (nI cnt).toNatClampNeg = cnt := nI_clamp (by omega)
  refine va_copyi (ty := .char) hx hb (hml.trans hl.1.symm) hown (hts _ w1) (hts _ w2) (hts _ w3) (hts _ w4) hK hP hD hS j0 j1 t t (zl_at hj0 hf0) (zl_at hj1 hf1) ht ht rfl (nI_pos (by omega)) (nI_pos (by omega)) (nI_pos (by omega)) (by rw [c1, c3]; exact h4) (by rw [c2, c3]; exact h5) (by rw [c1, c3]; exact hfit) hR1 hR2 hd (fun H1 locs1 hP1 hD1 hS1 => ?_)
  rw [c1, c2, c3, zl_set] at hP1 hD1
  exact kk H1 locs1 ls hl hP1 hD1 hS1
def zOi (own : String) (index : Nat) : Prop := Cond.methodLink own index objectInit ∈ zAll ∧ Cond.instanceMethod objectInit ∈ zAll ∧ Cond.code objectInit ⟨#[0xb1]⟩ 1 none ∈ zAll
theorem zr_objInit (X : zOK G l R cc nL own nm D tys) {index a : Nat} (F : zOi own index) (hd : decode cc pc = .ok (.invokespecial index, 3)) (hR1 : 1 ≤ R.frames) (hR2 : (st.map fun v => v.category).sum + 12 ≤ R.locals) (kk : G k n (pc + 3) lv st N q f) : G k n pc lv (.ref a :: st) N q f := by
  obtain ⟨p, e, s, m, args, below, meth, c, A, Q, rfl, hx, hb, hml, hown, hts, hK, hA, hnm, hAO⟩ := X
  intro H locs ls hl hP hD hS
  obtain ⟨w1, w2, w3⟩ := F
  exact W.objInit hx hb hown (hts _ w1) (hts _ w2) (hts _ w3) rfl (hl.1.trans hml.symm) rfl hd hR1 (by show 2 * 0 + _ + 12 ≤ _; omega) (kk H locs ls hl hP hD hS)
theorem zr_ireturn {ty : FieldType} {mc ms : Nat} {post : zP} (Y : zEnd G cc (some ty) mc ms post) {v : Int32} (hd : decode cc pc = .ok (.ireturn, 1)) (hn : narrow ty (.int v) = .int v) (hk : k ≤ mc) (hs : n ≤ ms) (hp : post (some (.int v)) N q f) : G k n pc lv [.int v] N q f := by
  obtain ⟨p, l, e, R, s, m, args, below, meth, c, D, A, nL, rfl, hx, hb, hr, hlocks⟩ := Y
  intro H locs ls hl hP hD hS
  refine W.widen hk hs ?_
  exact W.zret hx hb hr hn (fun t ht hW => ⟨some (.int v), N, q, f, rfl, hp, by rw [ht]; exact hP, hD, hS.F ht⟩) hS.2.2 hd hlocks
theorem zr_return {mc ms : Nat} {post : zP} (Y : zEnd G cc none mc ms post) (hd : decode cc pc = .ok (.return_, 1)) (hk : k ≤ mc) (hs : n ≤ ms) (hp : post none N q f) : G k n pc lv [] N q f := by
  obtain ⟨p, l, e, R, s, m, args, below, meth, c, D, A, nL, rfl, hx, hb, hr, hlocks⟩ := Y
  intro H locs ls hl hP hD hS
  refine W.widen hk hs ?_
  exact W.vret hx hb hr (fun t ht hW => ⟨none, N, q, f, rfl, hp, by rw [ht]; exact hP, hD, hS.F ht⟩) hS.2.2 hd hlocks
theorem zr_areturn {rt : FieldType} {mc ms : Nat} {post : zP} (Y : zEnd G cc (some rt) mc ms post) {v : Value} (hd : decode cc pc = .ok (.areturn, 1)) (hrt : (∃ x, rt = .object x) ∨ ∃ x, rt = .array x) (hv : v = .null ∨ ∃ a, v = .ref a) (hk : k ≤ mc) (hs : n ≤ ms) (hp : post (some v) N q f) : G k n pc lv [v] N q f := by
  obtain ⟨p, l, e, R, s, m, args, below, meth, c, D, A, nL, rfl, hx, hb, hr, hlocks⟩ := Y
  intro H locs ls hl hP hD hS
  refine W.widen hk hs ?_
  exact W.aret hx hb hr hrt hv (fun t ht hW => ⟨some v, N, q, f, rfl, hp, by rw [ht]; exact hP, hD, hS.F ht⟩) hS.2.2 hd hlocks
/-- what the tables say of a call -/
def zCF (own : String) (index : Nat) (y : MethodName) (bytes : ByteArray) (maxL : Nat) (ret : Option FieldType) (np : Nat) : Prop := Cond.methodLink own index y ∈ zAll ∧ Cond.initialized y.cls ∈ zAll ∧ Cond.code y bytes maxL ret ∈ zAll ∧ (y.cls ≠ "java/lang/invoke/MethodHandle" ∧ y.cls ≠ "java/lang/invoke/VarHandle") ∧ (parseMethodDescriptor y.desc).map (fun d => d.parameters.length) = some np
theorem z_callB {R : Room} {s : State} {args : Array Value} {own : String} {index : Nat} {y : MethodName} {bytes : ByteArray} {maxL : Nat} {ret : Option FieldType} {rm : Room} {np : Nat} (hts : ∀ w ∈ zAll, w.before args s = true) (F : zCF own index y bytes maxL ret np) (hR : rm.frames + 1 ≤ R.frames ∧ 8 + (maxL + 11) + rm.locals ≤ R.locals) : CallB R s args own index y bytes maxL ret (.code y bytes maxL ret :: zAll) rm rm.cells rm.slots np := by
  obtain ⟨h1, h2, h3, h4, h5⟩ := F
  refine callB_of np hts (fun w hw => ?_) rfl rfl rfl (hts _ h2) (hts _ h1) ⟨h4.1, h4.2, h5⟩ hR
  rcases List.mem_cons.mp hw with rfl | hw
  · exact ⟨h3, good_of_word (List.all_eq_true.mp zAll_good _ h3)⟩
  · exact ⟨hw, good_of_word (List.all_eq_true.mp zAll_good _ hw)⟩
theorem z_blind {av : List Value} {D : va_G} {tys : List (ClassId × FieldType)} {sz N : Nat} {q : Nat → Nat} {f : zF} : FrameBlind (va_Pc av (zPc D tys sz N q f)) := fun a U g mk h => by
  obtain ⟨q0, q1, qP, qK, qD, qO⟩ := h
  exact ⟨q0, q1, qP, va_K.moved (u := U) (U := U.calling g mk a) (Vm.Alike.refl U.vm) qK, qD, va_AO.moved (u := U) (U := U.calling g mk a) (Vm.Alike.refl U.vm) qO⟩
theorem z_pre {s : State} {H : Heap} {D : va_G} {tys : List (ClassId × FieldType)} {A : Nat → Prop} {av : List Value} {N : Nat} {q : Nat → Nat} {f : zF} (hP : va_P D zCl (zl N q f) H) (hK : va_K D zCl tys s) (hO : va_AO "BranchingText$Version" s) (hD : va_D A (zl N q f)) : ∀ U : State, U.heap = H → s.WarmedH U.vm → va_Pc av (zPc D tys H.size N q f) av.toArray U := fun U hU hW => ⟨rfl, by rw [hU], by rw [hU]; exact hP, va_K.moved hW.alike hK, hD.weaken (fun _ _ _ _ => trivial), va_AO.moved hW.alike hO⟩
theorem z_after {p : Program} {l : Launch} {e : Env} {R : Room} {s : State} {m : MethodId} {args : Array Value} {below : List Frame} {meth : Method} {c : Code} {H : Heap} {locs : List Loc} {k n mc ms pc nL : Nat} {Q : State → Prop} {D : va_G} {A : Nat → Prop} {lv : List (Option Value)} {ls : Array Slot} {st st0 : List Value} {a : Array Value} {N : Nat} {q : Nat → Nat} {f : zF} {post : zP}
    (hA : ∀ x, s.heap.size ≤ x → A x) (hl : zlv ls nL lv) (hD : va_D A (zl N q f)) (hS : va_S A s.heap H locs)
    (run : va_Run p l e R s m args below meth c H locs k n mc ms (F0 m pc ls st0) st (zQc D (va_A (zl N q f) H.size) post a) (va_A (zl N q f) H.size))
    (kk : ∀ (v : Option Value) (N' : Nat) (q' : Nat → Nat) (f' : zF), post v N' q' f' → zgx p l e R s m args below meth c D A Q nL (k + mc) (n + ms) (pc + 3) lv (v.toList ++ st) N' q' f') : W p l e R s m args below meth c H locs k n Q (F0 m pc ls st0) := by
  have hFc : ∀ x, va_A (zl N q f) H.size x → A x := by
    intro x hx
    rcases hx with ⟨i, e9, h⟩ | h
    · exact hD.2 i (x, e9) h
    · exact hA x (Nat.le_trans hS.1 h)
  intro T hT X
  obtain ⟨v, st₀, t, T', L, h0, X', hL, e1, e2, ⟨v', N', q', f', hv, hp, hP1, hD1, hz, hk⟩, stp⟩ := run T hT X
  cases hv
  rw [h0] at hz hk
  obtain ⟨t2, a1, b1⟩ := kk v N' q' f' hp T'.heap (locs ++ L) ls hl (by rw [e1]; exact hP1) (hD1.weaken (fun _ _ _ h => hFc _ h))
    ⟨Nat.le_trans hS.1 (by rw [e1]; exact hz), fun x h1 h2 => by rw [e1, hk x (Nat.lt_of_lt_of_le h1 hS.1) (fun z => h2 (hFc x z))]; exact hS.2.1 x h1 h2, fun x hx => by
      rcases List.mem_append.mp hx with h | h
      · exact hS.2.2 x h
      · exact hFc _ (hL x h)⟩ T' rfl X'
  exact ⟨t2, stp t2 a1, b1⟩
theorem zr_callV (X : zOK G l R cc nL own nm D tys) {y : MethodName} {bytes : ByteArray} {maxL : Nat} {ret : Option FieldType} {rm : Room} {post : zP} {index np : Nat} {av : List Value} {st0 : List Value} {j ci : Nat} {fs : List Value} {T : u_T} {NF : Nat} (F : zCF own index y bytes maxL ret np) (F1 : Cond.instanceMethod y ∈ zAll) (F2 : Cond.selects y.cls y y ∈ zAll) (hM : zC l y bytes maxL ret rm D tys (.ref (q j) :: av) N q f post) (hd : decode cc pc = .ok (.invokevirtual index, 3)) (hj : j < N) (hf : f j = .inr (ci, fs)) (hc : zCl[ci]? = some (y.cls, T, NF)) (hn : av.length = np) (hR : rm.frames + 1 ≤ R.frames ∧ 8 + (maxL + 11) + rm.locals ≤ R.locals) (hs : (st.map fun v => v.category).sum ≤ 8) (hcs : k + rm.cells ≤ R.cells ∧ n + rm.slots ≤ R.slots) (hst : st0 = av.reverse ++ .ref (q j) :: st) (kk : ∀ (v : Option Value) (N' : Nat) (q' : Nat → Nat) (f' : zF), post v N' q' f' → G (k + rm.cells) (n + rm.slots) (pc + 3) lv (v.toList ++ st) N' q' f') : G k n pc lv st0 N q f := by
  obtain ⟨p, e, s, m, args, below, meth, c, A, Q, rfl, hx, hb, hml, hown, hts, hK, hA, hnm, hAO⟩ := X
  intro H locs ls hl hP hD hS
  exact z_after hA hl hD hS (va_runV (As := av) (rest := st) (b := q j) (C := y.cls) ⟨hx, hb, hml, hown, hts⟩ (hM H.size) ⟨z_callB hts F hR, hts _ F1, hts _ F2⟩ ⟨z_blind, va_recv hK hP hc (zl_at hj hf), z_pre hP hK hAO hD⟩ rfl hn hl.1 hst (lv_room hs) hd hcs) kk
theorem zr_callS (X : zOK G l R cc nL own nm D tys) {y : MethodName} {bytes : ByteArray} {maxL : Nat} {ret : Option FieldType} {rm : Room} {post : zP} {index np : Nat} {av : List Value} {st0 : List Value} (F : zCF own index y bytes maxL ret np) (F1 : Cond.static y ∈ zAll) (hM : zC l y bytes maxL ret rm D tys av N q f post) (hd : decode cc pc = .ok (.invokestatic index, 3)) (hn : av.length = np) (hR : rm.frames + 1 ≤ R.frames ∧ 8 + (maxL + 11) + rm.locals ≤ R.locals) (hs : (st.map fun v => v.category).sum ≤ 8) (hcs : k + rm.cells ≤ R.cells ∧ n + rm.slots ≤ R.slots) (hst : st0 = av.reverse ++ st) (kk : ∀ (v : Option Value) (N' : Nat) (q' : Nat → Nat) (f' : zF), post v N' q' f' → G (k + rm.cells) (n + rm.slots) (pc + 3) lv (v.toList ++ st) N' q' f') : G k n pc lv st0 N q f := by
  obtain ⟨p, e, s, m, args, below, meth, c, A, Q, rfl, hx, hb, hml, hown, hts, hK, hA, hnm, hAO⟩ := X
  intro H locs ls hl hP hD hS
  exact z_after hA hl hD hS (va_runS (As := av) (rest := st) ⟨hx, hb, hml, hown, hts⟩ (hM H.size) ⟨z_callB hts F hR, hts _ F1⟩ ⟨z_blind, z_pre hP hK hAO hD⟩ rfl hn hl.1 hst (lv_room hs) hd hcs) kk
theorem zr_callI (X : zOK G l R cc nL own nm D tys) {y : MethodName} {bytes : ByteArray} {maxL : Nat} {rm : Room} {post : zP} {index np : Nat} {av : List Value} {st0 : List Value} {a : Nat} (F : zCF own index y bytes maxL none np) (F1 : Cond.instanceMethod y ∈ zAll) (F2 : y.name = "<init>") (hM : zC l y bytes maxL none rm D tys (.ref a :: av) N q f post) (hd : decode cc pc = .ok (.invokespecial index, 3)) (hn : av.length = np) (hR : rm.frames + 1 ≤ R.frames ∧ 8 + (maxL + 11) + rm.locals ≤ R.locals) (hs : (st.map fun v => v.category).sum ≤ 8) (hcs : k + rm.cells ≤ R.cells ∧ n + rm.slots ≤ R.slots) (hst : st0 = av.reverse ++ .ref a :: st) (kk : ∀ (v : Option Value) (N' : Nat) (q' : Nat → Nat) (f' : zF), post v N' q' f' → G (k + rm.cells) (n + rm.slots) (pc + 3) lv (v.toList ++ st) N' q' f') : G k n pc lv st0 N q f := by
  obtain ⟨p, e, s, m, args, below, meth, c, A, Q, rfl, hx, hb, hml, hown, hts, hK, hA, hnm, hAO⟩ := X
  intro H locs ls hl hP hD hS
  exact z_after hA hl hD hS (va_runI (As := av) (rest := st) (b := a) ⟨hx, hb, hml, hown, hts⟩ (hM H.size) ⟨z_callB hts F hR, F2, hts _ F1⟩ ⟨z_blind, z_pre hP hK hAO hD⟩ rfl hn hl.1 hst (lv_room hs) hd hcs) kk
theorem zr_if_eqt (X : zOK G l R cc nL own nm D tys) {x : Int32} {off : Int} {tgt : Nat} (hd : decode cc pc = .ok (.ifCond .eq off, 3)) (ht : (pc : Int) + off = (tgt : Int)) (hc : x = 0) (kk : G k n tgt lv st N q f) : G k n pc lv (.int x :: st) N q f := zr_if_eq X hd ht (fun _ => kk) (fun h => absurd hc h)
theorem zr_if_eqf (X : zOK G l R cc nL own nm D tys) {x : Int32} {off : Int} {tgt : Nat} (hd : decode cc pc = .ok (.ifCond .eq off, 3)) (ht : (pc : Int) + off = (tgt : Int)) (hc : ¬ x = 0) (kk : G k n (pc + 3) lv st N q f) : G k n pc lv (.int x :: st) N q f := zr_if_eq X hd ht (fun h => absurd h hc) (fun _ => kk)
theorem zr_icmp_eqt (X : zOK G l R cc nL own nm D tys) {x y : Int32} {off : Int} {tgt : Nat} (hd : decode cc pc = .ok (.if_icmp .eq off, 3)) (ht : (pc : Int) + off = (tgt : Int)) (hc : x = y) (kk : G k n tgt lv st N q f) : G k n pc lv (.int y :: .int x :: st) N q f := zr_icmp_eq X hd ht (fun _ => kk) (fun h => absurd hc h)
theorem zr_icmp_eqf (X : zOK G l R cc nL own nm D tys) {x y : Int32} {off : Int} {tgt : Nat} (hd : decode cc pc = .ok (.if_icmp .eq off, 3)) (ht : (pc : Int) + off = (tgt : Int)) (hc : ¬ x = y) (kk : G k n (pc + 3) lv st N q f) : G k n pc lv (.int y :: .int x :: st) N q f := zr_icmp_eq X hd ht (fun h => absurd h hc) (fun _ => kk)
theorem zr_if_net (X : zOK G l R cc nL own nm D tys) {x : Int32} {off : Int} {tgt : Nat} (hd : decode cc pc = .ok (.ifCond .ne off, 3)) (ht : (pc : Int) + off = (tgt : Int)) (hc : ¬ x = 0) (kk : G k n tgt lv st N q f) : G k n pc lv (.int x :: st) N q f := zr_if_ne X hd ht (fun _ => kk) (fun h => absurd h hc)
theorem zr_if_nef (X : zOK G l R cc nL own nm D tys) {x : Int32} {off : Int} {tgt : Nat} (hd : decode cc pc = .ok (.ifCond .ne off, 3)) (ht : (pc : Int) + off = (tgt : Int)) (hc : x = 0) (kk : G k n (pc + 3) lv st N q f) : G k n pc lv (.int x :: st) N q f := zr_if_ne X hd ht (fun h => absurd hc h) (fun _ => kk)
theorem zr_icmp_net (X : zOK G l R cc nL own nm D tys) {x y : Int32} {off : Int} {tgt : Nat} (hd : decode cc pc = .ok (.if_icmp .ne off, 3)) (ht : (pc : Int) + off = (tgt : Int)) (hc : ¬ x = y) (kk : G k n tgt lv st N q f) : G k n pc lv (.int y :: .int x :: st) N q f := zr_icmp_ne X hd ht (fun _ => kk) (fun h => absurd h hc)
theorem zr_icmp_nef (X : zOK G l R cc nL own nm D tys) {x y : Int32} {off : Int} {tgt : Nat} (hd : decode cc pc = .ok (.if_icmp .ne off, 3)) (ht : (pc : Int) + off = (tgt : Int)) (hc : x = y) (kk : G k n (pc + 3) lv st N q f) : G k n pc lv (.int y :: .int x :: st) N q f := zr_icmp_ne X hd ht (fun h => absurd hc h) (fun _ => kk)
theorem zr_if_ltt (X : zOK G l R cc nL own nm D tys) {x : Int32} {off : Int} {tgt : Nat} (hd : decode cc pc = .ok (.ifCond .lt off, 3)) (ht : (pc : Int) + off = (tgt : Int)) (hc : x < 0) (kk : G k n tgt lv st N q f) : G k n pc lv (.int x :: st) N q f := zr_if_lt X hd ht (fun _ => kk) (fun h => absurd hc h)
theorem zr_if_ltf (X : zOK G l R cc nL own nm D tys) {x : Int32} {off : Int} {tgt : Nat} (hd : decode cc pc = .ok (.ifCond .lt off, 3)) (ht : (pc : Int) + off = (tgt : Int)) (hc : ¬ x < 0) (kk : G k n (pc + 3) lv st N q f) : G k n pc lv (.int x :: st) N q f := zr_if_lt X hd ht (fun h => absurd h hc) (fun _ => kk)
theorem zr_icmp_ltt (X : zOK G l R cc nL own nm D tys) {x y : Int32} {off : Int} {tgt : Nat} (hd : decode cc pc = .ok (.if_icmp .lt off, 3)) (ht : (pc : Int) + off = (tgt : Int)) (hc : x < y) (kk : G k n tgt lv st N q f) : G k n pc lv (.int y :: .int x :: st) N q f := zr_icmp_lt X hd ht (fun _ => kk) (fun h => absurd hc h)
theorem zr_icmp_ltf (X : zOK G l R cc nL own nm D tys) {x y : Int32} {off : Int} {tgt : Nat} (hd : decode cc pc = .ok (.if_icmp .lt off, 3)) (ht : (pc : Int) + off = (tgt : Int)) (hc : ¬ x < y) (kk : G k n (pc + 3) lv st N q f) : G k n pc lv (.int y :: .int x :: st) N q f := zr_icmp_lt X hd ht (fun h => absurd h hc) (fun _ => kk)
theorem zr_if_get (X : zOK G l R cc nL own nm D tys) {x : Int32} {off : Int} {tgt : Nat} (hd : decode cc pc = .ok (.ifCond .ge off, 3)) (ht : (pc : Int) + off = (tgt : Int)) (hc : 0 ≤ x) (kk : G k n tgt lv st N q f) : G k n pc lv (.int x :: st) N q f := zr_if_ge X hd ht (fun _ => kk) (fun h => absurd hc h)
theorem zr_if_gef (X : zOK G l R cc nL own nm D tys) {x : Int32} {off : Int} {tgt : Nat} (hd : decode cc pc = .ok (.ifCond .ge off, 3)) (ht : (pc : Int) + off = (tgt : Int)) (hc : ¬ 0 ≤ x) (kk : G k n (pc + 3) lv st N q f) : G k n pc lv (.int x :: st) N q f := zr_if_ge X hd ht (fun h => absurd h hc) (fun _ => kk)
theorem zr_icmp_get (X : zOK G l R cc nL own nm D tys) {x y : Int32} {off : Int} {tgt : Nat} (hd : decode cc pc = .ok (.if_icmp .ge off, 3)) (ht : (pc : Int) + off = (tgt : Int)) (hc : y ≤ x) (kk : G k n tgt lv st N q f) : G k n pc lv (.int y :: .int x :: st) N q f := zr_icmp_ge X hd ht (fun _ => kk) (fun h => absurd hc h)
theorem zr_icmp_gef (X : zOK G l R cc nL own nm D tys) {x y : Int32} {off : Int} {tgt : Nat} (hd : decode cc pc = .ok (.if_icmp .ge off, 3)) (ht : (pc : Int) + off = (tgt : Int)) (hc : ¬ y ≤ x) (kk : G k n (pc + 3) lv st N q f) : G k n pc lv (.int y :: .int x :: st) N q f := zr_icmp_ge X hd ht (fun h => absurd h hc) (fun _ => kk)
theorem zr_if_gtt (X : zOK G l R cc nL own nm D tys) {x : Int32} {off : Int} {tgt : Nat} (hd : decode cc pc = .ok (.ifCond .gt off, 3)) (ht : (pc : Int) + off = (tgt : Int)) (hc : 0 < x) (kk : G k n tgt lv st N q f) : G k n pc lv (.int x :: st) N q f := zr_if_gt X hd ht (fun _ => kk) (fun h => absurd hc h)
theorem zr_if_gtf (X : zOK G l R cc nL own nm D tys) {x : Int32} {off : Int} {tgt : Nat} (hd : decode cc pc = .ok (.ifCond .gt off, 3)) (ht : (pc : Int) + off = (tgt : Int)) (hc : ¬ 0 < x) (kk : G k n (pc + 3) lv st N q f) : G k n pc lv (.int x :: st) N q f := zr_if_gt X hd ht (fun h => absurd h hc) (fun _ => kk)
theorem zr_icmp_gtt (X : zOK G l R cc nL own nm D tys) {x y : Int32} {off : Int} {tgt : Nat} (hd : decode cc pc = .ok (.if_icmp .gt off, 3)) (ht : (pc : Int) + off = (tgt : Int)) (hc : y < x) (kk : G k n tgt lv st N q f) : G k n pc lv (.int y :: .int x :: st) N q f := zr_icmp_gt X hd ht (fun _ => kk) (fun h => absurd hc h)
theorem zr_icmp_gtf (X : zOK G l R cc nL own nm D tys) {x y : Int32} {off : Int} {tgt : Nat} (hd : decode cc pc = .ok (.if_icmp .gt off, 3)) (ht : (pc : Int) + off = (tgt : Int)) (hc : ¬ y < x) (kk : G k n (pc + 3) lv st N q f) : G k n pc lv (.int y :: .int x :: st) N q f := zr_icmp_gt X hd ht (fun h => absurd h hc) (fun _ => kk)
theorem zr_if_let (X : zOK G l R cc nL own nm D tys) {x : Int32} {off : Int} {tgt : Nat} (hd : decode cc pc = .ok (.ifCond .le off, 3)) (ht : (pc : Int) + off = (tgt : Int)) (hc : x ≤ 0) (kk : G k n tgt lv st N q f) : G k n pc lv (.int x :: st) N q f := zr_if_le X hd ht (fun _ => kk) (fun h => absurd hc h)
theorem zr_if_lef (X : zOK G l R cc nL own nm D tys) {x : Int32} {off : Int} {tgt : Nat} (hd : decode cc pc = .ok (.ifCond .le off, 3)) (ht : (pc : Int) + off = (tgt : Int)) (hc : ¬ x ≤ 0) (kk : G k n (pc + 3) lv st N q f) : G k n pc lv (.int x :: st) N q f := zr_if_le X hd ht (fun h => absurd h hc) (fun _ => kk)
theorem zr_icmp_let (X : zOK G l R cc nL own nm D tys) {x y : Int32} {off : Int} {tgt : Nat} (hd : decode cc pc = .ok (.if_icmp .le off, 3)) (ht : (pc : Int) + off = (tgt : Int)) (hc : x ≤ y) (kk : G k n tgt lv st N q f) : G k n pc lv (.int y :: .int x :: st) N q f := zr_icmp_le X hd ht (fun _ => kk) (fun h => absurd hc h)
theorem zr_icmp_lef (X : zOK G l R cc nL own nm D tys) {x y : Int32} {off : Int} {tgt : Nat} (hd : decode cc pc = .ok (.if_icmp .le off, 3)) (ht : (pc : Int) + off = (tgt : Int)) (hc : ¬ x ≤ y) (kk : G k n (pc + 3) lv st N q f) : G k n pc lv (.int y :: .int x :: st) N q f := zr_icmp_le X hd ht (fun h => absurd h hc) (fun _ => kk)
theorem zr_acmp_eqt (X : zOK G l R cc nL own nm D tys) {a b : Nat} {off : Int} {tgt : Nat} (hd : decode cc pc = .ok (.if_acmp .eq off, 3)) (ht : (pc : Int) + off = (tgt : Int)) (hc : a = b) (kk : G k n tgt lv st N q f) : G k n pc lv (.ref b :: .ref a :: st) N q f := zr_acmp_eq X hd ht (fun _ => kk) (fun h => absurd hc h)
theorem zr_acmp_eqf (X : zOK G l R cc nL own nm D tys) {a b : Nat} {off : Int} {tgt : Nat} (hd : decode cc pc = .ok (.if_acmp .eq off, 3)) (ht : (pc : Int) + off = (tgt : Int)) (hc : ¬ a = b) (kk : G k n (pc + 3) lv st N q f) : G k n pc lv (.ref b :: .ref a :: st) N q f := zr_acmp_eq X hd ht (fun h => absurd h hc) (fun _ => kk)
theorem zr_inj (X : zOK G l R cc nL own nm D tys) (kk : (∀ i j, i < N → j < N → q i = q j → i = j) → G k n pc lv st N q f) : G k n pc lv st N q f := by
  obtain ⟨p, e, s, m, args, below, meth, c, A, Q, rfl, hx, hb, hml, hown, hts, hK, hA, hnm, hAO⟩ := X
  intro H locs ls hl hP hD hS
  exact kk (fun i j hi hj h => hD.1 i j _ _ (zl_get hi) (zl_get hj) h) H locs ls hl hP hD hS
end ZR
