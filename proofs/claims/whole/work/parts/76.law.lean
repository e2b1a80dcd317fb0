set_option maxRecDepth 100000 in
set_option maxHeartbeats 4000000 in
theorem L_11 {G : zT} {l : Launch} {D : va_G} {cI cC cZ cV : ClassId} {nm : String} {bs L : Nat} {xs : Nat → Int32} (X : zOK G l room_1 code 4 R_L nm D (zty cI cC cZ cV)) (S : zLW G bs L xs) {N : Nat} {q : Nat → Nat} {f : zF} {k s0 i : Nat} (hL : L ≤ 2048) (hi : i + 3 < L) (hk : k + 2 ≤ 600000) (hs : s0 + 2007 ≤ 7302250) (I : zInv cI cC cZ cV N q f) (back : ∀ (N' : Nat) (q' : Nat → Nat) (f' : zF), zInv cI cC cZ cV N' q' f' → G (k + 2) (s0 + 2007) 645 [some (.ref bs), some (.ref (q' 0)), some (.ref (q' 10)), some (.int (nI i))] [] N' q' f') : G k s0 353 [some (.ref bs), some (.ref (q 0)), some (.ref (q 10)), some (.int (nI i))] [] N q f := by
  have I0 := I
  obtain ⟨n, ins, a, k1, par, com, tp, tc, tq, tz, tt, cn, lat, mp, mr, sc, pa, iset, ma, mr2, sc2, C, M0, P⟩ := I
  have C0 := C
  have M00 := M0
  have P0 := P
  obtain ⟨c1, Cu, c3, c4, c5, c6, c7, ⟨md, c8, c8'⟩, ⟨wo, c9⟩, V⟩ := C
  have Cu0 := Cu
  obtain ⟨h0, h1, ⟨tx1, h2, htx1, hag1⟩, h6⟩ := Cu
  obtain ⟨g10, g11, g19, hsc2, g20, g21, g22, co, pl, mn, fi, pool, tx2, way, g12, g13, g14, g15, g16, g17, g18, M, Lp, hpool, htx2, hag2⟩ := M0
  obtain ⟨p1, p2, ha, p4, p5, hp0, T, p8, p9, p10, p11, p12⟩ := P
  have hza := T.2.1 a ha
  have hzi := p8 a ha
  have hp := fun v h0 h => T.lt (v := v) h0 h
  generalize hx : xs (i + 1) = x
  rcases z_ix x (n := n) (by omega) with ⟨v, hv, rfl⟩ | hno
  · skip
    by_cases hv0 : v = 0
    · skip
      subst hv0
      show G k s0 353 [some (.ref bs), some (.ref (q 0)), some (.ref (q 10)), some (.int (nI i))] [] N q f
      refine zr_aload_n X d_L_law_353 rfl ?_
      refine zr_aload_n X d_L_law_354 rfl ?_
      refine zr_iload_n X d_L_law_355 rfl ?_
      refine zr_iconst (v := nI 1) X d_L_law_356 (by decide) ?_
      refine zr_iadd (z := nI (i + 1)) X d_L_law_357 (nI_add _ _) ?_
      refine zs_ld (v := nI 0) S d_L_law_358 (by omega) hL hx ?_
      refine zr_callV X K_L_61 KI_L_61 KS_L_61 (c_B_parent_0 (by omega) h0 c8 (jv := 24) (by omega) (V.root p1) hv p2 (c8' 0 hv)) d_L_law_359 (by omega) h0 rfl rfl (by decide) (Nat.le_of_ble_eq_true rfl) ⟨by show k + 0 ≤ 600000; omega, by show s0 + 0 ≤ 7302250; omega⟩ (st := []) rfl (kRd ?_)
      show G k s0 362 [some (.ref bs), some (.ref (q 0)), some (.ref (q 10)), some (.int (nI i))] [.int (-1)] N q f
      refine zr_aload_n X d_L_law_362 rfl ?_
      refine zr_aload_n X d_L_law_363 rfl ?_
      refine zr_iload_n X d_L_law_364 rfl ?_
      refine zr_iconst (v := nI 1) X d_L_law_365 (by decide) ?_
      refine zr_iadd (z := nI (i + 1)) X d_L_law_366 (nI_add _ _) ?_
      refine zs_ld (v := nI 0) S d_L_law_367 (by omega) hL hx ?_
      refine zr_callV X K_L_64 KI_L_64 KS_L_64 (c_O_parent_0 (by omega) g10) d_L_law_368 (by omega) g10 rfl rfl (by decide) (Nat.le_of_ble_eq_true rfl) ⟨by show k + 0 ≤ 600000; omega, by show s0 + 0 ≤ 7302250; omega⟩ (st := [.int (-1)]) rfl (kRd ?_)
      show G k s0 371 [some (.ref bs), some (.ref (q 0)), some (.ref (q 10)), some (.int (nI i))] [.int (-1), .int (-1)] N q f
      refine zr_icmp_eqt (tgt := 645) X d_L_law_371 rfl rfl ?_
      exact zr_widen X (by omega) (by omega) (back N q f I0)
    · skip
      have hvl := hp v (by omega) hv
      show G k s0 353 [some (.ref bs), some (.ref (q 0)), some (.ref (q 10)), some (.int (nI i))] [] N q f
      refine zr_aload_n X d_L_law_353 rfl ?_
      refine zr_aload_n X d_L_law_354 rfl ?_
      refine zr_iload_n X d_L_law_355 rfl ?_
      refine zr_iconst (v := nI 1) X d_L_law_356 (by decide) ?_
      refine zr_iadd (z := nI (i + 1)) X d_L_law_357 (nI_add _ _) ?_
      refine zs_ld (v := nI v) S d_L_law_358 (by omega) hL hx ?_
      refine zr_callV X K_L_61 KI_L_61 KS_L_61 (c_B_parent_y (by omega) h0 c8 (by omega) (V.par (by omega) hv) (by omega) (V (par v) (by omega)).1 hv p2 (c8' v hv)) d_L_law_359 (by omega) h0 rfl rfl (by decide) (Nat.le_of_ble_eq_true rfl) ⟨by show k + 0 ≤ 600000; omega, by show s0 + 0 ≤ 7302250; omega⟩ (st := []) rfl (kRd ?_)
      show G k s0 362 [some (.ref bs), some (.ref (q 0)), some (.ref (q 10)), some (.int (nI i))] [.int (nI (par v))] N q f
      refine zr_aload_n X d_L_law_362 rfl ?_
      refine zr_aload_n X d_L_law_363 rfl ?_
      refine zr_iload_n X d_L_law_364 rfl ?_
      refine zr_iconst (v := nI 1) X d_L_law_365 (by decide) ?_
      refine zr_iadd (z := nI (i + 1)) X d_L_law_366 (nI_add _ _) ?_
      refine zs_ld (v := nI v) S d_L_law_367 (by omega) hL hx ?_
      refine zr_callV X K_L_64 KI_L_64 KS_L_64 (c_O_parent_y (by omega) g10 g11 (by omega) hv p2) d_L_law_368 (by omega) g10 rfl rfl (by decide) (Nat.le_of_ble_eq_true rfl) ⟨by show k + 0 ≤ 600000; omega, by show s0 + 0 ≤ 7302250; omega⟩ (st := [.int (nI (par v))]) rfl (kRd ?_)
      show G k s0 371 [some (.ref bs), some (.ref (q 0)), some (.ref (q 10)), some (.int (nI i))] [.int (pa v), .int (nI (par v))] N q f
      refine zr_icmp_eqt (tgt := 645) X d_L_law_371 rfl (M v (by omega) hv).1.symm ?_
      exact zr_widen X (by omega) (by omega) (back N q f I0)
  · skip
    show G k s0 353 [some (.ref bs), some (.ref (q 0)), some (.ref (q 10)), some (.int (nI i))] [] N q f
    refine zr_aload_n X d_L_law_353 rfl ?_
    refine zr_aload_n X d_L_law_354 rfl ?_
    refine zr_iload_n X d_L_law_355 rfl ?_
    refine zr_iconst (v := nI 1) X d_L_law_356 (by decide) ?_
    refine zr_iadd (z := nI (i + 1)) X d_L_law_357 (nI_add _ _) ?_
    refine zs_ld (v := x) S d_L_law_358 (by omega) hL hx ?_
    refine zr_callV X K_L_61 KI_L_61 KS_L_61 (c_B_parent_n (by omega) h0 hno) d_L_law_359 (by omega) h0 rfl rfl (by decide) (Nat.le_of_ble_eq_true rfl) ⟨by show k + 0 ≤ 600000; omega, by show s0 + 0 ≤ 7302250; omega⟩ (st := []) rfl (kRd ?_)
    show G k s0 362 [some (.ref bs), some (.ref (q 0)), some (.ref (q 10)), some (.int (nI i))] [.int (-1)] N q f
    refine zr_aload_n X d_L_law_362 rfl ?_
    refine zr_aload_n X d_L_law_363 rfl ?_
    refine zr_iload_n X d_L_law_364 rfl ?_
    refine zr_iconst (v := nI 1) X d_L_law_365 (by decide) ?_
    refine zr_iadd (z := nI (i + 1)) X d_L_law_366 (nI_add _ _) ?_
    refine zs_ld (v := x) S d_L_law_367 (by omega) hL hx ?_
    refine zr_callV X K_L_64 KI_L_64 KS_L_64 (c_O_parent_n (by omega) g10 hno) d_L_law_368 (by omega) g10 rfl rfl (by decide) (Nat.le_of_ble_eq_true rfl) ⟨by show k + 0 ≤ 600000; omega, by show s0 + 0 ≤ 7302250; omega⟩ (st := [.int (-1)]) rfl (kRd ?_)
    show G k s0 371 [some (.ref bs), some (.ref (q 0)), some (.ref (q 10)), some (.int (nI i))] [.int (-1), .int (-1)] N q f
    refine zr_icmp_eqt (tgt := 645) X d_L_law_371 rfl rfl ?_
    exact zr_widen X (by omega) (by omega) (back N q f I0)

set_option maxRecDepth 100000 in
set_option maxHeartbeats 4000000 in
theorem L_12 {G : zT} {l : Launch} {D : va_G} {cI cC cZ cV : ClassId} {nm : String} {bs L : Nat} {xs : Nat → Int32} (X : zOK G l room_1 code 4 R_L nm D (zty cI cC cZ cV)) (S : zLW G bs L xs) {N : Nat} {q : Nat → Nat} {f : zF} {k s0 i : Nat} (hL : L ≤ 2048) (hi : i + 3 < L) (hk : k + 2 ≤ 600000) (hs : s0 + 2007 ≤ 7302250) (I : zInv cI cC cZ cV N q f) (back : ∀ (N' : Nat) (q' : Nat → Nat) (f' : zF), zInv cI cC cZ cV N' q' f' → G (k + 2) (s0 + 2007) 645 [some (.ref bs), some (.ref (q' 0)), some (.ref (q' 10)), some (.int (nI i))] [] N' q' f') : G k s0 376 [some (.ref bs), some (.ref (q 0)), some (.ref (q 10)), some (.int (nI i))] [] N q f := by
  have I0 := I
  obtain ⟨n, ins, a, k1, par, com, tp, tc, tq, tz, tt, cn, lat, mp, mr, sc, pa, iset, ma, mr2, sc2, C, M0, P⟩ := I
  have C0 := C
  have M00 := M0
  have P0 := P
  obtain ⟨c1, Cu, c3, c4, c5, c6, c7, ⟨md, c8, c8'⟩, ⟨wo, c9⟩, V⟩ := C
  have Cu0 := Cu
  obtain ⟨h0, h1, ⟨tx1, h2, htx1, hag1⟩, h6⟩ := Cu
  obtain ⟨g10, g11, g19, hsc2, g20, g21, g22, co, pl, mn, fi, pool, tx2, way, g12, g13, g14, g15, g16, g17, g18, M, Lp, hpool, htx2, hag2⟩ := M0
  obtain ⟨p1, p2, ha, p4, p5, hp0, T, p8, p9, p10, p11, p12⟩ := P
  have hza := T.2.1 a ha
  have hzi := p8 a ha
  have hp := fun v h0 h => T.lt (v := v) h0 h
  generalize hx : xs (i + 1) = x
  rcases z_ix x (n := n) (by omega) with ⟨v, hv, rfl⟩ | hno
  · skip
    show G k s0 376 [some (.ref bs), some (.ref (q 0)), some (.ref (q 10)), some (.int (nI i))] [] N q f
    refine zr_aload_n X d_L_law_376 rfl ?_
    refine zr_aload_n X d_L_law_377 rfl ?_
    refine zr_iload_n X d_L_law_378 rfl ?_
    refine zr_iconst (v := nI 1) X d_L_law_379 (by decide) ?_
    refine zr_iadd (z := nI (i + 1)) X d_L_law_380 (nI_add _ _) ?_
    refine zs_ld (v := nI v) S d_L_law_381 (by omega) hL hx ?_
    refine zr_callV X K_L_65 KI_L_65 KS_L_65 (c_B_children_y (by omega) h0 c8 (by omega) (V v hv).1 hv p2 (c8' v hv)) d_L_law_382 (by omega) h0 rfl rfl (by decide) (Nat.le_of_ble_eq_true rfl) ⟨by show k + 0 ≤ 600000; omega, by show s0 + 0 ≤ 7302250; omega⟩ (st := []) rfl (kRd ?_)
    show G k s0 385 [some (.ref bs), some (.ref (q 0)), some (.ref (q 10)), some (.int (nI i))] [.int (nI (cn v))] N q f
    refine zr_aload_n X d_L_law_385 rfl ?_
    refine zr_aload_n X d_L_law_386 rfl ?_
    refine zr_iload_n X d_L_law_387 rfl ?_
    refine zr_iconst (v := nI 1) X d_L_law_388 (by decide) ?_
    refine zr_iadd (z := nI (i + 1)) X d_L_law_389 (nI_add _ _) ?_
    refine zs_ld (v := nI v) S d_L_law_390 (by omega) hL hx ?_
    refine zr_callV X K_L_68 KI_L_68 KS_L_68 (c_O_children_y (by omega) g10 g11 hv p2) d_L_law_391 (by omega) g10 rfl rfl (by decide) (Nat.le_of_ble_eq_true rfl) ⟨by show k + 0 ≤ 600000; omega, by show s0 + 0 ≤ 7302250; omega⟩ (st := [.int (nI (cn v))]) rfl (kRd ?_)
    show G k s0 394 [some (.ref bs), some (.ref (q 0)), some (.ref (q 10)), some (.int (nI i))] [.int (nI (zcc pa v n)), .int (nI (cn v))] N q f
    refine zr_icmp_eqt (tgt := 645) X d_L_law_394 rfl (by rw [(p9 v hv).1]) ?_
    exact zr_widen X (by omega) (by omega) (back N q f I0)
  · skip
    show G k s0 376 [some (.ref bs), some (.ref (q 0)), some (.ref (q 10)), some (.int (nI i))] [] N q f
    refine zr_aload_n X d_L_law_376 rfl ?_
    refine zr_aload_n X d_L_law_377 rfl ?_
    refine zr_iload_n X d_L_law_378 rfl ?_
    refine zr_iconst (v := nI 1) X d_L_law_379 (by decide) ?_
    refine zr_iadd (z := nI (i + 1)) X d_L_law_380 (nI_add _ _) ?_
    refine zs_ld (v := x) S d_L_law_381 (by omega) hL hx ?_
    refine zr_callV X K_L_65 KI_L_65 KS_L_65 (c_B_children_n (by omega) h0 hno) d_L_law_382 (by omega) h0 rfl rfl (by decide) (Nat.le_of_ble_eq_true rfl) ⟨by show k + 0 ≤ 600000; omega, by show s0 + 0 ≤ 7302250; omega⟩ (st := []) rfl (kRd ?_)
    show G k s0 385 [some (.ref bs), some (.ref (q 0)), some (.ref (q 10)), some (.int (nI i))] [.int (-1)] N q f
    refine zr_aload_n X d_L_law_385 rfl ?_
    refine zr_aload_n X d_L_law_386 rfl ?_
    refine zr_iload_n X d_L_law_387 rfl ?_
    refine zr_iconst (v := nI 1) X d_L_law_388 (by decide) ?_
    refine zr_iadd (z := nI (i + 1)) X d_L_law_389 (nI_add _ _) ?_
    refine zs_ld (v := x) S d_L_law_390 (by omega) hL hx ?_
    refine zr_callV X K_L_68 KI_L_68 KS_L_68 (c_O_children_n (by omega) g10 hno) d_L_law_391 (by omega) g10 rfl rfl (by decide) (Nat.le_of_ble_eq_true rfl) ⟨by show k + 0 ≤ 600000; omega, by show s0 + 0 ≤ 7302250; omega⟩ (st := [.int (-1)]) rfl (kRd ?_)
    show G k s0 394 [some (.ref bs), some (.ref (q 0)), some (.ref (q 10)), some (.int (nI i))] [.int (-1), .int (-1)] N q f
    refine zr_icmp_eqt (tgt := 645) X d_L_law_394 rfl rfl ?_
    exact zr_widen X (by omega) (by omega) (back N q f I0)

set_option maxRecDepth 100000 in
set_option maxHeartbeats 4000000 in
theorem L_13 {G : zT} {l : Launch} {D : va_G} {cI cC cZ cV : ClassId} {nm : String} {bs L : Nat} {xs : Nat → Int32} (X : zOK G l room_1 code 4 R_L nm D (zty cI cC cZ cV)) (S : zLW G bs L xs) {N : Nat} {q : Nat → Nat} {f : zF} {k s0 i : Nat} (hL : L ≤ 2048) (hi : i + 3 < L) (hk : k + 2 ≤ 600000) (hs : s0 + 2007 ≤ 7302250) (I : zInv cI cC cZ cV N q f) (back : ∀ (N' : Nat) (q' : Nat → Nat) (f' : zF), zInv cI cC cZ cV N' q' f' → G (k + 2) (s0 + 2007) 645 [some (.ref bs), some (.ref (q' 0)), some (.ref (q' 10)), some (.int (nI i))] [] N' q' f') : G k s0 399 [some (.ref bs), some (.ref (q 0)), some (.ref (q 10)), some (.int (nI i))] [] N q f := by
  have I0 := I
  obtain ⟨n, ins, a, k1, par, com, tp, tc, tq, tz, tt, cn, lat, mp, mr, sc, pa, iset, ma, mr2, sc2, C, M0, P⟩ := I
  have C0 := C
  have M00 := M0
  have P0 := P
  obtain ⟨c1, Cu, c3, c4, c5, c6, c7, ⟨md, c8, c8'⟩, ⟨wo, c9⟩, V⟩ := C
  have Cu0 := Cu
  obtain ⟨h0, h1, ⟨tx1, h2, htx1, hag1⟩, h6⟩ := Cu
  obtain ⟨g10, g11, g19, hsc2, g20, g21, g22, co, pl, mn, fi, pool, tx2, way, g12, g13, g14, g15, g16, g17, g18, M, Lp, hpool, htx2, hag2⟩ := M0
  obtain ⟨p1, p2, ha, p4, p5, hp0, T, p8, p9, p10, p11, p12⟩ := P
  have hza := T.2.1 a ha
  have hzi := p8 a ha
  have hp := fun v h0 h => T.lt (v := v) h0 h
  show G k s0 399 [some (.ref bs), some (.ref (q 0)), some (.ref (q 10)), some (.int (nI i))] [] N q f
  refine zr_aload_n X d_L_law_399 rfl ?_
  refine zr_callV X K_L_69 KI_L_69 KS_L_69 (c_B_length (by omega) h0 h1) d_L_law_400 (by omega) h0 rfl rfl (by decide) (Nat.le_of_ble_eq_true rfl) ⟨by show k + 0 ≤ 600000; omega, by show s0 + 0 ≤ 7302250; omega⟩ (st := []) rfl (kRd ?_)
  show G k s0 403 [some (.ref bs), some (.ref (q 0)), some (.ref (q 10)), some (.int (nI i))] [.int (nI (tz a))] N q f
  refine zr_aload_n X d_L_law_403 rfl ?_
  refine zr_callV X K_L_72 KI_L_72 KS_L_72 (c_O_length (by omega) g10) d_L_law_404 (by omega) g10 rfl rfl (by decide) (Nat.le_of_ble_eq_true rfl) ⟨by show k + 0 ≤ 600000; omega, by show s0 + 0 ≤ 7302250; omega⟩ (st := [.int (nI (tz a))]) rfl (kRd ?_)
  show G k s0 407 [some (.ref bs), some (.ref (q 0)), some (.ref (q 10)), some (.int (nI i))] [.int (nI (tz a)), .int (nI (tz a))] N q f
  refine zr_icmp_eqt (tgt := 645) X d_L_law_407 rfl rfl ?_
  exact zr_widen X (by omega) (by omega) (back N q f I0)

set_option maxRecDepth 100000 in
set_option maxHeartbeats 4000000 in
theorem L_14 {G : zT} {l : Launch} {D : va_G} {cI cC cZ cV : ClassId} {nm : String} {bs L : Nat} {xs : Nat → Int32} (X : zOK G l room_1 code 4 R_L nm D (zty cI cC cZ cV)) (S : zLW G bs L xs) {N : Nat} {q : Nat → Nat} {f : zF} {k s0 i : Nat} (hL : L ≤ 2048) (hi : i + 3 < L) (hk : k + 2 ≤ 600000) (hs : s0 + 2007 ≤ 7302250) (I : zInv cI cC cZ cV N q f) (back : ∀ (N' : Nat) (q' : Nat → Nat) (f' : zF), zInv cI cC cZ cV N' q' f' → G (k + 2) (s0 + 2007) 645 [some (.ref bs), some (.ref (q' 0)), some (.ref (q' 10)), some (.int (nI i))] [] N' q' f') : G k s0 412 [some (.ref bs), some (.ref (q 0)), some (.ref (q 10)), some (.int (nI i))] [] N q f := by
  have I0 := I
  obtain ⟨n, ins, a, k1, par, com, tp, tc, tq, tz, tt, cn, lat, mp, mr, sc, pa, iset, ma, mr2, sc2, C, M0, P⟩ := I
  have C0 := C
  have M00 := M0
  have P0 := P
  obtain ⟨c1, Cu, c3, c4, c5, c6, c7, ⟨md, c8, c8'⟩, ⟨wo, c9⟩, V⟩ := C
  have Cu0 := Cu
  obtain ⟨h0, h1, ⟨tx1, h2, htx1, hag1⟩, h6⟩ := Cu
  obtain ⟨g10, g11, g19, hsc2, g20, g21, g22, co, pl, mn, fi, pool, tx2, way, g12, g13, g14, g15, g16, g17, g18, M, Lp, hpool, htx2, hag2⟩ := M0
  obtain ⟨p1, p2, ha, p4, p5, hp0, T, p8, p9, p10, p11, p12⟩ := P
  have hza := T.2.1 a ha
  have hzi := p8 a ha
  have hp := fun v h0 h => T.lt (v := v) h0 h
  generalize hx : xs (i + 1) = x
  rcases z_ix x (n := tz a) (by omega) with ⟨j, hj, rfl⟩ | hno
  · skip
    show G k s0 412 [some (.ref bs), some (.ref (q 0)), some (.ref (q 10)), some (.int (nI i))] [] N q f
    refine zr_aload_n X d_L_law_412 rfl ?_
    refine zr_aload_n X d_L_law_413 rfl ?_
    refine zr_iload_n X d_L_law_414 rfl ?_
    refine zr_iconst (v := nI 1) X d_L_law_415 (by decide) ?_
    refine zr_iadd (z := nI (i + 1)) X d_L_law_416 (nI_add _ _) ?_
    refine zs_ld (v := nI j) S d_L_law_417 (by omega) hL hx ?_
    refine zr_callV X K_L_73 KI_L_73 KS_L_73 (c_B_at_y (by omega) h0 h1 h2 htx1 hj hza) d_L_law_418 (by omega) h0 rfl rfl (by decide) (Nat.le_of_ble_eq_true rfl) ⟨by show k + 0 ≤ 600000; omega, by show s0 + 0 ≤ 7302250; omega⟩ (st := []) rfl (kRd ?_)
    show G k s0 421 [some (.ref bs), some (.ref (q 0)), some (.ref (q 10)), some (.int (nI i))] [.int (tx1 j)] N q f
    refine zr_aload_n X d_L_law_421 rfl ?_
    refine zr_aload_n X d_L_law_422 rfl ?_
    refine zr_iload_n X d_L_law_423 rfl ?_
    refine zr_iconst (v := nI 1) X d_L_law_424 (by decide) ?_
    refine zr_iadd (z := nI (i + 1)) X d_L_law_425 (nI_add _ _) ?_
    refine zs_ld (v := nI j) S d_L_law_426 (by omega) hL hx ?_
    refine zr_callV X K_L_77 KI_L_77 KS_L_77 (c_O_at_y (by omega) g10 g17 htx2 hj hza) d_L_law_427 (by omega) g10 rfl rfl (by decide) (Nat.le_of_ble_eq_true rfl) ⟨by show k + 0 ≤ 600000; omega, by show s0 + 0 ≤ 7302250; omega⟩ (st := [.int (tx1 j)]) rfl (kRd ?_)
    show G k s0 430 [some (.ref bs), some (.ref (q 0)), some (.ref (q 10)), some (.int (nI i))] [.int (tx2 j), .int (tx1 j)] N q f
    refine zr_icmp_eqt (tgt := 645) X d_L_law_430 rfl ((hag1 j hj).trans (hag2 j hj).symm) ?_
    exact zr_widen X (by omega) (by omega) (back N q f I0)
  · skip
    show G k s0 412 [some (.ref bs), some (.ref (q 0)), some (.ref (q 10)), some (.int (nI i))] [] N q f
    refine zr_aload_n X d_L_law_412 rfl ?_
    refine zr_aload_n X d_L_law_413 rfl ?_
    refine zr_iload_n X d_L_law_414 rfl ?_
    refine zr_iconst (v := nI 1) X d_L_law_415 (by decide) ?_
    refine zr_iadd (z := nI (i + 1)) X d_L_law_416 (nI_add _ _) ?_
    refine zs_ld (v := x) S d_L_law_417 (by omega) hL hx ?_
    refine zr_callV X K_L_73 KI_L_73 KS_L_73 (c_B_at_n (by omega) h0 h1 hno) d_L_law_418 (by omega) h0 rfl rfl (by decide) (Nat.le_of_ble_eq_true rfl) ⟨by show k + 0 ≤ 600000; omega, by show s0 + 0 ≤ 7302250; omega⟩ (st := []) rfl (kRd ?_)
    show G k s0 421 [some (.ref bs), some (.ref (q 0)), some (.ref (q 10)), some (.int (nI i))] [.int (nI 0)] N q f
    refine zr_aload_n X d_L_law_421 rfl ?_
    refine zr_aload_n X d_L_law_422 rfl ?_
    refine zr_iload_n X d_L_law_423 rfl ?_
    refine zr_iconst (v := nI 1) X d_L_law_424 (by decide) ?_
    refine zr_iadd (z := nI (i + 1)) X d_L_law_425 (nI_add _ _) ?_
    refine zs_ld (v := x) S d_L_law_426 (by omega) hL hx ?_
    refine zr_callV X K_L_77 KI_L_77 KS_L_77 (c_O_at_n (by omega) g10 hno) d_L_law_427 (by omega) g10 rfl rfl (by decide) (Nat.le_of_ble_eq_true rfl) ⟨by show k + 0 ≤ 600000; omega, by show s0 + 0 ≤ 7302250; omega⟩ (st := [.int (nI 0)]) rfl (kRd ?_)
    show G k s0 430 [some (.ref bs), some (.ref (q 0)), some (.ref (q 10)), some (.int (nI i))] [.int (nI 0), .int (nI 0)] N q f
    refine zr_icmp_eqt (tgt := 645) X d_L_law_430 rfl rfl ?_
    exact zr_widen X (by omega) (by omega) (back N q f I0)

set_option maxRecDepth 100000 in
set_option maxHeartbeats 4000000 in
theorem L_15 {G : zT} {l : Launch} {D : va_G} {cI cC cZ cV : ClassId} {nm : String} {bs L : Nat} {xs : Nat → Int32} (X : zOK G l room_1 code 4 R_L nm D (zty cI cC cZ cV)) (S : zLW G bs L xs) {N : Nat} {q : Nat → Nat} {f : zF} {k s0 i : Nat} (hL : L ≤ 2048) (hi : i + 3 < L) (hk : k + 2 ≤ 600000) (hs : s0 + 2007 ≤ 7302250) (I : zInv cI cC cZ cV N q f) (back : ∀ (N' : Nat) (q' : Nat → Nat) (f' : zF), zInv cI cC cZ cV N' q' f' → G (k + 2) (s0 + 2007) 645 [some (.ref bs), some (.ref (q' 0)), some (.ref (q' 10)), some (.int (nI i))] [] N' q' f') : G k s0 435 [some (.ref bs), some (.ref (q 0)), some (.ref (q 10)), some (.int (nI i))] [] N q f := by
  have I0 := I
  obtain ⟨n, ins, a, k1, par, com, tp, tc, tq, tz, tt, cn, lat, mp, mr, sc, pa, iset, ma, mr2, sc2, C, M0, P⟩ := I
  have C0 := C
  have M00 := M0
  have P0 := P
  obtain ⟨c1, Cu, c3, c4, c5, c6, c7, ⟨md, c8, c8'⟩, ⟨wo, c9⟩, V⟩ := C
  have Cu0 := Cu
  obtain ⟨h0, h1, ⟨tx1, h2, htx1, hag1⟩, h6⟩ := Cu
  obtain ⟨g10, g11, g19, hsc2, g20, g21, g22, co, pl, mn, fi, pool, tx2, way, g12, g13, g14, g15, g16, g17, g18, M, Lp, hpool, htx2, hag2⟩ := M0
  obtain ⟨p1, p2, ha, p4, p5, hp0, T, p8, p9, p10, p11, p12⟩ := P
  have hza := T.2.1 a ha
  have hzi := p8 a ha
  have hp := fun v h0 h => T.lt (v := v) h0 h
  show G k s0 435 [some (.ref bs), some (.ref (q 0)), some (.ref (q 10)), some (.int (nI i))] [] N q f
  refine zr_aload_n X d_L_law_435 rfl ?_
  refine zr_callV X K_L_78 KI_L_78 KS_L_78 (c_B_lines (by omega) h0 h1 h2 hza) d_L_law_436 (by omega) h0 rfl rfl (by decide) (Nat.le_of_ble_eq_true rfl) ⟨by show k + 0 ≤ 600000; omega, by show s0 + 0 ≤ 7302250; omega⟩ (st := []) rfl (kRd ?_)
  show G k s0 439 [some (.ref bs), some (.ref (q 0)), some (.ref (q 10)), some (.int (nI i))] [.int (nI (znl tx1 (tz a) + 1))] N q f
  refine zr_aload_n X d_L_law_439 rfl ?_
  refine zr_callV X K_L_81 KI_L_81 KS_L_81 (c_O_lines (by omega) g10 g17 hza) d_L_law_440 (by omega) g10 rfl rfl (by decide) (Nat.le_of_ble_eq_true rfl) ⟨by show k + 0 ≤ 600000; omega, by show s0 + 0 ≤ 7302250; omega⟩ (st := [.int (nI (znl tx1 (tz a) + 1))]) rfl (kRd ?_)
  show G k s0 443 [some (.ref bs), some (.ref (q 0)), some (.ref (q 10)), some (.int (nI i))] [.int (nI (znl tx2 (tz a) + 1)), .int (nI (znl tx1 (tz a) + 1))] N q f
  refine zr_icmp_eqt (tgt := 645) X d_L_law_443 rfl (by rw [znl_congr (fun j hj => (hag1 j hj).trans (hag2 j hj).symm)]) ?_
  exact zr_widen X (by omega) (by omega) (back N q f I0)

set_option maxRecDepth 100000 in
set_option maxHeartbeats 4000000 in
theorem L_16 {G : zT} {l : Launch} {D : va_G} {cI cC cZ cV : ClassId} {nm : String} {bs L : Nat} {xs : Nat → Int32} (X : zOK G l room_1 code 4 R_L nm D (zty cI cC cZ cV)) (S : zLW G bs L xs) {N : Nat} {q : Nat → Nat} {f : zF} {k s0 i : Nat} (hL : L ≤ 2048) (hi : i + 3 < L) (hk : k + 2 ≤ 600000) (hs : s0 + 2007 ≤ 7302250) (I : zInv cI cC cZ cV N q f) (back : ∀ (N' : Nat) (q' : Nat → Nat) (f' : zF), zInv cI cC cZ cV N' q' f' → G (k + 2) (s0 + 2007) 645 [some (.ref bs), some (.ref (q' 0)), some (.ref (q' 10)), some (.int (nI i))] [] N' q' f') : G k s0 448 [some (.ref bs), some (.ref (q 0)), some (.ref (q 10)), some (.int (nI i))] [] N q f := by
  have I0 := I
  obtain ⟨n, ins, a, k1, par, com, tp, tc, tq, tz, tt, cn, lat, mp, mr, sc, pa, iset, ma, mr2, sc2, C, M0, P⟩ := I
  have C0 := C
  have M00 := M0
  have P0 := P
  obtain ⟨c1, Cu, c3, c4, c5, c6, c7, ⟨md, c8, c8'⟩, ⟨wo, c9⟩, V⟩ := C
  have Cu0 := Cu
  obtain ⟨h0, h1, ⟨tx1, h2, htx1, hag1⟩, h6⟩ := Cu
  obtain ⟨g10, g11, g19, hsc2, g20, g21, g22, co, pl, mn, fi, pool, tx2, way, g12, g13, g14, g15, g16, g17, g18, M, Lp, hpool, htx2, hag2⟩ := M0
  obtain ⟨p1, p2, ha, p4, p5, hp0, T, p8, p9, p10, p11, p12⟩ := P
  have hza := T.2.1 a ha
  have hzi := p8 a ha
  have hp := fun v h0 h => T.lt (v := v) h0 h
  generalize hx : xs (i + 1) = x
  by_cases hx0 : x < 0
  · skip
    show G k s0 448 [some (.ref bs), some (.ref (q 0)), some (.ref (q 10)), some (.int (nI i))] [] N q f
    refine zr_aload_n X d_L_law_448 rfl ?_
    refine zr_aload_n X d_L_law_449 rfl ?_
    refine zr_iload_n X d_L_law_450 rfl ?_
    refine zr_iconst (v := nI 1) X d_L_law_451 (by decide) ?_
    refine zr_iadd (z := nI (i + 1)) X d_L_law_452 (nI_add _ _) ?_
    refine zs_ld (v := x) S d_L_law_453 (by omega) hL hx ?_
    refine zr_callV X K_L_82 KI_L_82 KS_L_82 (c_B_lineStart_n (by omega) h0 hx0) d_L_law_454 (by omega) h0 rfl rfl (by decide) (Nat.le_of_ble_eq_true rfl) ⟨by show k + 0 ≤ 600000; omega, by show s0 + 0 ≤ 7302250; omega⟩ (st := []) rfl (kRd ?_)
    show G k s0 457 [some (.ref bs), some (.ref (q 0)), some (.ref (q 10)), some (.int (nI i))] [.int (-1)] N q f
    refine zr_aload_n X d_L_law_457 rfl ?_
    refine zr_aload_n X d_L_law_458 rfl ?_
    refine zr_iload_n X d_L_law_459 rfl ?_
    refine zr_iconst (v := nI 1) X d_L_law_460 (by decide) ?_
    refine zr_iadd (z := nI (i + 1)) X d_L_law_461 (nI_add _ _) ?_
    refine zs_ld (v := x) S d_L_law_462 (by omega) hL hx ?_
    refine zr_callV X K_L_85 KI_L_85 KS_L_85 (c_O_lineStart (by omega) g10 g17 hza) d_L_law_463 (by omega) g10 rfl rfl (by decide) (Nat.le_of_ble_eq_true rfl) ⟨by show k + 0 ≤ 600000; omega, by show s0 + 0 ≤ 7302250; omega⟩ (st := [.int (-1)]) rfl (kI fun r2 f2 h2 => ?_)
    obtain ⟨e2, w2⟩ := h2
    rw [e2]
    show G k s0 466 [some (.ref bs), some (.ref (q 0)), some (.ref (q 10)), some (.int (nI i))] [.int r2, .int (-1)] N q f
    refine zr_icmp_eqt (tgt := 645) X d_L_law_466 rfl (z_lsn hx0 hza w2).symm ?_
    exact zr_widen X (by omega) (by omega) (back N q f I0)
  · skip
    obtain ⟨j, hj, rfl⟩ := nI_of hx0
    by_cases hj0 : j = 0
    · skip
      subst hj0
      show G k s0 448 [some (.ref bs), some (.ref (q 0)), some (.ref (q 10)), some (.int (nI i))] [] N q f
      refine zr_aload_n X d_L_law_448 rfl ?_
      refine zr_aload_n X d_L_law_449 rfl ?_
      refine zr_iload_n X d_L_law_450 rfl ?_
      refine zr_iconst (v := nI 1) X d_L_law_451 (by decide) ?_
      refine zr_iadd (z := nI (i + 1)) X d_L_law_452 (nI_add _ _) ?_
      refine zs_ld (v := nI 0) S d_L_law_453 (by omega) hL hx ?_
      refine zr_callV X K_L_82 KI_L_82 KS_L_82 (c_B_lineStart_0 (by omega) h0) d_L_law_454 (by omega) h0 rfl rfl (by decide) (Nat.le_of_ble_eq_true rfl) ⟨by show k + 0 ≤ 600000; omega, by show s0 + 0 ≤ 7302250; omega⟩ (st := []) rfl (kRd ?_)
      show G k s0 457 [some (.ref bs), some (.ref (q 0)), some (.ref (q 10)), some (.int (nI i))] [.int (nI 0)] N q f
      refine zr_aload_n X d_L_law_457 rfl ?_
      refine zr_aload_n X d_L_law_458 rfl ?_
      refine zr_iload_n X d_L_law_459 rfl ?_
      refine zr_iconst (v := nI 1) X d_L_law_460 (by decide) ?_
      refine zr_iadd (z := nI (i + 1)) X d_L_law_461 (nI_add _ _) ?_
      refine zs_ld (v := nI 0) S d_L_law_462 (by omega) hL hx ?_
      refine zr_callV X K_L_85 KI_L_85 KS_L_85 (c_O_lineStart (by omega) g10 g17 hza) d_L_law_463 (by omega) g10 rfl rfl (by decide) (Nat.le_of_ble_eq_true rfl) ⟨by show k + 0 ≤ 600000; omega, by show s0 + 0 ≤ 7302250; omega⟩ (st := [.int (nI 0)]) rfl (kI fun r2 f2 h2 => ?_)
      obtain ⟨e2, w2⟩ := h2
      rw [e2]
      show G k s0 466 [some (.ref bs), some (.ref (q 0)), some (.ref (q 10)), some (.int (nI i))] [.int r2, .int (nI 0)] N q f
      refine zr_icmp_eqt (tgt := 645) X d_L_law_466 rfl (z_ls0 w2).symm ?_
      exact zr_widen X (by omega) (by omega) (back N q f I0)
    · skip
      show G k s0 448 [some (.ref bs), some (.ref (q 0)), some (.ref (q 10)), some (.int (nI i))] [] N q f
      refine zr_aload_n X d_L_law_448 rfl ?_
      refine zr_aload_n X d_L_law_449 rfl ?_
      refine zr_iload_n X d_L_law_450 rfl ?_
      refine zr_iconst (v := nI 1) X d_L_law_451 (by decide) ?_
      refine zr_iadd (z := nI (i + 1)) X d_L_law_452 (nI_add _ _) ?_
      refine zs_ld (v := nI j) S d_L_law_453 (by omega) hL hx ?_
      refine zr_callV X K_L_82 KI_L_82 KS_L_82 (c_B_lineStart_y (by omega) h0 h1 h2 (by omega) hj hza) d_L_law_454 (by omega) h0 rfl rfl (by decide) (Nat.le_of_ble_eq_true rfl) ⟨by show k + 0 ≤ 600000; omega, by show s0 + 0 ≤ 7302250; omega⟩ (st := []) rfl (kI fun r1 f1 h1 => ?_)
      obtain ⟨e1, w1⟩ := h1
      rw [e1]
      show G k s0 457 [some (.ref bs), some (.ref (q 0)), some (.ref (q 10)), some (.int (nI i))] [.int r1] N q f
      refine zr_aload_n X d_L_law_457 rfl ?_
      refine zr_aload_n X d_L_law_458 rfl ?_
      refine zr_iload_n X d_L_law_459 rfl ?_
      refine zr_iconst (v := nI 1) X d_L_law_460 (by decide) ?_
      refine zr_iadd (z := nI (i + 1)) X d_L_law_461 (nI_add _ _) ?_
      refine zs_ld (v := nI j) S d_L_law_462 (by omega) hL hx ?_
      refine zr_callV X K_L_85 KI_L_85 KS_L_85 (c_O_lineStart (by omega) g10 g17 hza) d_L_law_463 (by omega) g10 rfl rfl (by decide) (Nat.le_of_ble_eq_true rfl) ⟨by show k + 0 ≤ 600000; omega, by show s0 + 0 ≤ 7302250; omega⟩ (st := [.int r1]) rfl (kI fun r2 f2 h2 => ?_)
      obtain ⟨e2, w2⟩ := h2
      rw [e2]
      show G k s0 466 [some (.ref bs), some (.ref (q 0)), some (.ref (q 10)), some (.int (nI i))] [.int r2, .int r1] N q f
      refine zr_icmp_eqt (tgt := 645) X d_L_law_466 rfl (z_ls hj hza (fun t ht => (hag1 t ht).trans (hag2 t ht).symm) w1 w2) ?_
      exact zr_widen X (by omega) (by omega) (back N q f I0)

set_option maxRecDepth 100000 in
set_option maxHeartbeats 4000000 in
theorem L_17 {G : zT} {l : Launch} {D : va_G} {cI cC cZ cV : ClassId} {nm : String} {bs L : Nat} {xs : Nat → Int32} (X : zOK G l room_1 code 4 R_L nm D (zty cI cC cZ cV)) (S : zLW G bs L xs) {N : Nat} {q : Nat → Nat} {f : zF} {k s0 i : Nat} (hL : L ≤ 2048) (hi : i + 3 < L) (hk : k + 2 ≤ 600000) (hs : s0 + 2007 ≤ 7302250) (I : zInv cI cC cZ cV N q f) (back : ∀ (N' : Nat) (q' : Nat → Nat) (f' : zF), zInv cI cC cZ cV N' q' f' → G (k + 2) (s0 + 2007) 645 [some (.ref bs), some (.ref (q' 0)), some (.ref (q' 10)), some (.int (nI i))] [] N' q' f') : G k s0 471 [some (.ref bs), some (.ref (q 0)), some (.ref (q 10)), some (.int (nI i))] [] N q f := by
  have I0 := I
  obtain ⟨n, ins, a, k1, par, com, tp, tc, tq, tz, tt, cn, lat, mp, mr, sc, pa, iset, ma, mr2, sc2, C, M0, P⟩ := I
  have C0 := C
  have M00 := M0
  have P0 := P
  obtain ⟨c1, Cu, c3, c4, c5, c6, c7, ⟨md, c8, c8'⟩, ⟨wo, c9⟩, V⟩ := C
  have Cu0 := Cu
  obtain ⟨h0, h1, ⟨tx1, h2, htx1, hag1⟩, h6⟩ := Cu
  obtain ⟨g10, g11, g19, hsc2, g20, g21, g22, co, pl, mn, fi, pool, tx2, way, g12, g13, g14, g15, g16, g17, g18, M, Lp, hpool, htx2, hag2⟩ := M0
  obtain ⟨p1, p2, ha, p4, p5, hp0, T, p8, p9, p10, p11, p12⟩ := P
  have hza := T.2.1 a ha
  have hzi := p8 a ha
  have hp := fun v h0 h => T.lt (v := v) h0 h
  generalize hx : xs (i + 1) = x
  rcases z_posn x (n := tz a) (by omega) with ⟨p, hpp, rfl⟩ | hno
  · skip
    show G k s0 471 [some (.ref bs), some (.ref (q 0)), some (.ref (q 10)), some (.int (nI i))] [] N q f
    refine zr_aload_n X d_L_law_471 rfl ?_
    refine zr_aload_n X d_L_law_472 rfl ?_
    refine zr_iload_n X d_L_law_473 rfl ?_
    refine zr_iconst (v := nI 1) X d_L_law_474 (by decide) ?_
    refine zr_iadd (z := nI (i + 1)) X d_L_law_475 (nI_add _ _) ?_
    refine zs_ld (v := nI p) S d_L_law_476 (by omega) hL hx ?_
    refine zr_callV X K_L_86 KI_L_86 KS_L_86 (c_B_lineOf_y (by omega) h0 h1 h2 hpp hza) d_L_law_477 (by omega) h0 rfl rfl (by decide) (Nat.le_of_ble_eq_true rfl) ⟨by show k + 0 ≤ 600000; omega, by show s0 + 0 ≤ 7302250; omega⟩ (st := []) rfl (kRd ?_)
    show G k s0 480 [some (.ref bs), some (.ref (q 0)), some (.ref (q 10)), some (.int (nI i))] [.int (nI (znl tx1 p))] N q f
    refine zr_aload_n X d_L_law_480 rfl ?_
    refine zr_aload_n X d_L_law_481 rfl ?_
    refine zr_iload_n X d_L_law_482 rfl ?_
    refine zr_iconst (v := nI 1) X d_L_law_483 (by decide) ?_
    refine zr_iadd (z := nI (i + 1)) X d_L_law_484 (nI_add _ _) ?_
    refine zs_ld (v := nI p) S d_L_law_485 (by omega) hL hx ?_
    refine zr_callV X K_L_89 KI_L_89 KS_L_89 (c_O_lineOf_y (by omega) g10 g17 hpp hza) d_L_law_486 (by omega) g10 rfl rfl (by decide) (Nat.le_of_ble_eq_true rfl) ⟨by show k + 0 ≤ 600000; omega, by show s0 + 0 ≤ 7302250; omega⟩ (st := [.int (nI (znl tx1 p))]) rfl (kRd ?_)
    show G k s0 489 [some (.ref bs), some (.ref (q 0)), some (.ref (q 10)), some (.int (nI i))] [.int (nI (znl tx2 p)), .int (nI (znl tx1 p))] N q f
    refine zr_icmp_eqt (tgt := 645) X d_L_law_489 rfl (by rw [znl_congr (fun j hj => (hag1 j (by omega)).trans (hag2 j (by omega)).symm)]) ?_
    exact zr_widen X (by omega) (by omega) (back N q f I0)
  · skip
    show G k s0 471 [some (.ref bs), some (.ref (q 0)), some (.ref (q 10)), some (.int (nI i))] [] N q f
    refine zr_aload_n X d_L_law_471 rfl ?_
    refine zr_aload_n X d_L_law_472 rfl ?_
    refine zr_iload_n X d_L_law_473 rfl ?_
    refine zr_iconst (v := nI 1) X d_L_law_474 (by decide) ?_
    refine zr_iadd (z := nI (i + 1)) X d_L_law_475 (nI_add _ _) ?_
    refine zs_ld (v := x) S d_L_law_476 (by omega) hL hx ?_
    refine zr_callV X K_L_86 KI_L_86 KS_L_86 (c_B_lineOf_n (by omega) h0 h1 hno) d_L_law_477 (by omega) h0 rfl rfl (by decide) (Nat.le_of_ble_eq_true rfl) ⟨by show k + 0 ≤ 600000; omega, by show s0 + 0 ≤ 7302250; omega⟩ (st := []) rfl (kRd ?_)
    show G k s0 480 [some (.ref bs), some (.ref (q 0)), some (.ref (q 10)), some (.int (nI i))] [.int (-1)] N q f
    refine zr_aload_n X d_L_law_480 rfl ?_
    refine zr_aload_n X d_L_law_481 rfl ?_
    refine zr_iload_n X d_L_law_482 rfl ?_
    refine zr_iconst (v := nI 1) X d_L_law_483 (by decide) ?_
    refine zr_iadd (z := nI (i + 1)) X d_L_law_484 (nI_add _ _) ?_
    refine zs_ld (v := x) S d_L_law_485 (by omega) hL hx ?_
    refine zr_callV X K_L_89 KI_L_89 KS_L_89 (c_O_lineOf_n (by omega) g10 hno) d_L_law_486 (by omega) g10 rfl rfl (by decide) (Nat.le_of_ble_eq_true rfl) ⟨by show k + 0 ≤ 600000; omega, by show s0 + 0 ≤ 7302250; omega⟩ (st := [.int (-1)]) rfl (kRd ?_)
    show G k s0 489 [some (.ref bs), some (.ref (q 0)), some (.ref (q 10)), some (.int (nI i))] [.int (-1), .int (-1)] N q f
    refine zr_icmp_eqt (tgt := 645) X d_L_law_489 rfl rfl ?_
    exact zr_widen X (by omega) (by omega) (back N q f I0)

set_option maxRecDepth 100000 in
set_option maxHeartbeats 4000000 in
theorem L_18 {G : zT} {l : Launch} {D : va_G} {cI cC cZ cV : ClassId} {nm : String} {bs L : Nat} {xs : Nat → Int32} (X : zOK G l room_1 code 4 R_L nm D (zty cI cC cZ cV)) (S : zLW G bs L xs) {N : Nat} {q : Nat → Nat} {f : zF} {k s0 i : Nat} (hL : L ≤ 2048) (hi : i + 3 < L) (hk : k + 2 ≤ 600000) (hs : s0 + 2007 ≤ 7302250) (I : zInv cI cC cZ cV N q f) (back : ∀ (N' : Nat) (q' : Nat → Nat) (f' : zF), zInv cI cC cZ cV N' q' f' → G (k + 2) (s0 + 2007) 645 [some (.ref bs), some (.ref (q' 0)), some (.ref (q' 10)), some (.int (nI i))] [] N' q' f') : G k s0 494 [some (.ref bs), some (.ref (q 0)), some (.ref (q 10)), some (.int (nI i))] [] N q f := by
  have I0 := I
  obtain ⟨n, ins, a, k1, par, com, tp, tc, tq, tz, tt, cn, lat, mp, mr, sc, pa, iset, ma, mr2, sc2, C, M0, P⟩ := I
  have C0 := C
  have M00 := M0
  have P0 := P
  obtain ⟨c1, Cu, c3, c4, c5, c6, c7, ⟨md, c8, c8'⟩, ⟨wo, c9⟩, V⟩ := C
  have Cu0 := Cu
  obtain ⟨h0, h1, ⟨tx1, h2, htx1, hag1⟩, h6⟩ := Cu
  obtain ⟨g10, g11, g19, hsc2, g20, g21, g22, co, pl, mn, fi, pool, tx2, way, g12, g13, g14, g15, g16, g17, g18, M, Lp, hpool, htx2, hag2⟩ := M0
  obtain ⟨p1, p2, ha, p4, p5, hp0, T, p8, p9, p10, p11, p12⟩ := P
  have hza := T.2.1 a ha
  have hzi := p8 a ha
  have hp := fun v h0 h => T.lt (v := v) h0 h
  generalize hx : xs (i + 1) = x
  rcases z_posn x (n := tz a) (by omega) with ⟨p, hpp, rfl⟩ | hno
  · skip
    by_cases hk0 : k1 = 0
    · skip
      show G k s0 494 [some (.ref bs), some (.ref (q 0)), some (.ref (q 10)), some (.int (nI i))] [] N q f
      refine zr_aload_n X d_L_law_494 rfl ?_
      refine zr_aload_n X d_L_law_495 rfl ?_
      refine zr_iload_n X d_L_law_496 rfl ?_
      refine zr_iconst (v := nI 1) X d_L_law_497 (by decide) ?_
      refine zr_iadd (z := nI (i + 1)) X d_L_law_498 (nI_add _ _) ?_
      refine zs_ld (v := nI p) S d_L_law_499 (by omega) hL hx ?_
      refine zr_callV X K_L_90 KI_L_90 KS_L_90 (c_B_find_e (by omega) h0 h1 c3 hpp hza hk0) d_L_law_500 (by omega) h0 rfl rfl (by decide) (Nat.le_of_ble_eq_true rfl) ⟨by show k + 0 ≤ 600000; omega, by show s0 + 0 ≤ 7302250; omega⟩ (st := []) rfl (kRd ?_)
      show G k s0 503 [some (.ref bs), some (.ref (q 0)), some (.ref (q 10)), some (.int (nI i))] [.int (-2)] N q f
      refine zr_aload_n X d_L_law_503 rfl ?_
      refine zr_aload_n X d_L_law_504 rfl ?_
      refine zr_iload_n X d_L_law_505 rfl ?_
      refine zr_iconst (v := nI 1) X d_L_law_506 (by decide) ?_
      refine zr_iadd (z := nI (i + 1)) X d_L_law_507 (nI_add _ _) ?_
      refine zs_ld (v := nI p) S d_L_law_508 (by omega) hL hx ?_
      refine zr_callV X K_L_93 KI_L_93 KS_L_93 (c_O_find_e (by omega) g10 hpp hza hk0) d_L_law_509 (by omega) g10 rfl rfl (by decide) (Nat.le_of_ble_eq_true rfl) ⟨by show k + 0 ≤ 600000; omega, by show s0 + 0 ≤ 7302250; omega⟩ (st := [.int (-2)]) rfl (kRd ?_)
      show G k s0 512 [some (.ref bs), some (.ref (q 0)), some (.ref (q 10)), some (.int (nI i))] [.int (-2), .int (-2)] N q f
      refine zr_icmp_eqt (tgt := 645) X d_L_law_512 rfl rfl ?_
      exact zr_widen X (by omega) (by omega) (back N q f I0)
    · skip
      show G k s0 494 [some (.ref bs), some (.ref (q 0)), some (.ref (q 10)), some (.int (nI i))] [] N q f
      refine zr_aload_n X d_L_law_494 rfl ?_
      refine zr_aload_n X d_L_law_495 rfl ?_
      refine zr_iload_n X d_L_law_496 rfl ?_
      refine zr_iconst (v := nI 1) X d_L_law_497 (by decide) ?_
      refine zr_iadd (z := nI (i + 1)) X d_L_law_498 (nI_add _ _) ?_
      refine zs_ld (v := nI p) S d_L_law_499 (by omega) hL hx ?_
      refine zr_callV X K_L_90 KI_L_90 KS_L_90 (c_B_find_y (by omega) h0 h1 h2 c3 c4 hpp hza p5 (by omega)) d_L_law_500 (by omega) h0 rfl rfl (by decide) (Nat.le_of_ble_eq_true rfl) ⟨by show k + 0 ≤ 600000; omega, by show s0 + 0 ≤ 7302250; omega⟩ (st := []) rfl (kI fun r1 f1 h1 => ?_)
      obtain ⟨e1, w1⟩ := h1
      rw [e1]
      show G k s0 503 [some (.ref bs), some (.ref (q 0)), some (.ref (q 10)), some (.int (nI i))] [.int r1] N q f
      refine zr_aload_n X d_L_law_503 rfl ?_
      refine zr_aload_n X d_L_law_504 rfl ?_
      refine zr_iload_n X d_L_law_505 rfl ?_
      refine zr_iconst (v := nI 1) X d_L_law_506 (by decide) ?_
      refine zr_iadd (z := nI (i + 1)) X d_L_law_507 (nI_add _ _) ?_
      refine zs_ld (v := nI p) S d_L_law_508 (by omega) hL hx ?_
      refine zr_callV X K_L_93 KI_L_93 KS_L_93 (c_O_find_y (by omega) g10 g17 g19 hpp hza p5 (by omega)) d_L_law_509 (by omega) g10 rfl rfl (by decide) (Nat.le_of_ble_eq_true rfl) ⟨by show k + 0 ≤ 600000; omega, by show s0 + 0 ≤ 7302250; omega⟩ (st := [.int r1]) rfl (kI fun r2 f2 h2 => ?_)
      obtain ⟨e2, w2⟩ := h2
      rw [e2]
      show G k s0 512 [some (.ref bs), some (.ref (q 0)), some (.ref (q 10)), some (.int (nI i))] [.int r2, .int r1] N q f
      refine zr_icmp_eqt (tgt := 645) X d_L_law_512 rfl (z_fnd (fun t ht => (hag1 t ht).trans (hag2 t ht).symm) p10 w1 w2) ?_
      exact zr_widen X (by omega) (by omega) (back N q f I0)
  · skip
    show G k s0 494 [some (.ref bs), some (.ref (q 0)), some (.ref (q 10)), some (.int (nI i))] [] N q f
    refine zr_aload_n X d_L_law_494 rfl ?_
    refine zr_aload_n X d_L_law_495 rfl ?_
    refine zr_iload_n X d_L_law_496 rfl ?_
    refine zr_iconst (v := nI 1) X d_L_law_497 (by decide) ?_
    refine zr_iadd (z := nI (i + 1)) X d_L_law_498 (nI_add _ _) ?_
    refine zs_ld (v := x) S d_L_law_499 (by omega) hL hx ?_
    refine zr_callV X K_L_90 KI_L_90 KS_L_90 (c_B_find_n (by omega) h0 h1 hno) d_L_law_500 (by omega) h0 rfl rfl (by decide) (Nat.le_of_ble_eq_true rfl) ⟨by show k + 0 ≤ 600000; omega, by show s0 + 0 ≤ 7302250; omega⟩ (st := []) rfl (kRd ?_)
    show G k s0 503 [some (.ref bs), some (.ref (q 0)), some (.ref (q 10)), some (.int (nI i))] [.int (-1)] N q f
    refine zr_aload_n X d_L_law_503 rfl ?_
    refine zr_aload_n X d_L_law_504 rfl ?_
    refine zr_iload_n X d_L_law_505 rfl ?_
    refine zr_iconst (v := nI 1) X d_L_law_506 (by decide) ?_
    refine zr_iadd (z := nI (i + 1)) X d_L_law_507 (nI_add _ _) ?_
    refine zs_ld (v := x) S d_L_law_508 (by omega) hL hx ?_
    refine zr_callV X K_L_93 KI_L_93 KS_L_93 (c_O_find_n (by omega) g10 hno) d_L_law_509 (by omega) g10 rfl rfl (by decide) (Nat.le_of_ble_eq_true rfl) ⟨by show k + 0 ≤ 600000; omega, by show s0 + 0 ≤ 7302250; omega⟩ (st := [.int (-1)]) rfl (kRd ?_)
    show G k s0 512 [some (.ref bs), some (.ref (q 0)), some (.ref (q 10)), some (.int (nI i))] [.int (-1), .int (-1)] N q f
    refine zr_icmp_eqt (tgt := 645) X d_L_law_512 rfl rfl ?_
    exact zr_widen X (by omega) (by omega) (back N q f I0)
