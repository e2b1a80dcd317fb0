set_option maxRecDepth 100000 in
set_option maxHeartbeats 4000000 in
theorem L_6 {G : zT} {l : Launch} {D : va_G} {cI cC cZ cV : ClassId} {nm : String} {bs L : Nat} {xs : Nat → Int32} (X : zOK G l room_1 code 4 R_L nm D (zty cI cC cZ cV)) (S : zLW G bs L xs) {N : Nat} {q : Nat → Nat} {f : zF} {k s0 i : Nat} (hL : L ≤ 2048) (hi : i + 3 < L) (hk : k + 2 ≤ 600000) (hs : s0 + 2007 ≤ 7302250) (I : zInv cI cC cZ cV N q f) (back : ∀ (N' : Nat) (q' : Nat → Nat) (f' : zF), zInv cI cC cZ cV N' q' f' → G (k + 2) (s0 + 2007) 645 [some (.ref bs), some (.ref (q' 0)), some (.ref (q' 10)), some (.int (nI i))] [] N' q' f') : G k s0 278 [some (.ref bs), some (.ref (q 0)), some (.ref (q 10)), some (.int (nI i))] [] N q f := by
  have I0 := I
  obtain ⟨n, ins, a, k1, par, com, tp, tc, tq, tz, tt, cn, lat, mp, mr, sc, pa, iset, ma, mr2, sc2, C, M0, P⟩ := I
  have C0 := C
  have M00 := M0
  have P0 := P
  obtain ⟨c1, Cu, c3, c4, c5, c6, c7, ⟨md, c8, c8'⟩, ⟨wo, c9⟩, V⟩ := C
  have Cu0 := Cu
  obtain ⟨h0, h1, ⟨tx1, h2, htx1, hag1⟩, h6⟩ := Cu
  obtain ⟨g10, g11, g19, hsc2, g20, g21, g22, co, pl, mn, fi, pool, tx2, way, g12, g13, g14, g15, g16, g17, g18, M, Lp, hpool, htx2, hag2⟩ := M0
  obtain ⟨p1, p2, ha, p4, p5, hp0, T, p8, p9, p10, p11, p12⟩ := P
  have hza := T.2.1 a ha
  have hzi := p8 a ha
  have hp := fun v h0 h => T.lt (v := v) h0 h
  by_cases ha0 : a = 0
  · skip
    have h0' := h0
    rw [ha0] at h0'
    show G k s0 278 [some (.ref bs), some (.ref (q 0)), some (.ref (q 10)), some (.int (nI i))] [] N q f
    refine zr_aload_n X d_L_law_278 rfl ?_
    refine zr_callV X K_L_41 KI_L_41 KS_L_41 (c_B_undo_0 (jv := 24) (by omega) h0' (by omega) (V.root p1)) d_L_law_279 (by omega) h0 rfl rfl (by decide) (Nat.le_of_ble_eq_true rfl) ⟨by show k + 0 ≤ 600000; omega, by show s0 + 0 ≤ 7302250; omega⟩ (st := []) rfl (kRd ?_)
    show G k s0 282 [some (.ref bs), some (.ref (q 0)), some (.ref (q 10)), some (.int (nI i))] [.int (-1)] N q f
    refine zr_aload_n X d_L_law_282 rfl ?_
    refine zr_callV X K_L_44 KI_L_44 KS_L_44 (c_O_undo_0 (by omega) g10 ha0) d_L_law_283 (by omega) g10 rfl rfl (by decide) (Nat.le_of_ble_eq_true rfl) ⟨by show k + 0 ≤ 600000; omega, by show s0 + 0 ≤ 7302250; omega⟩ (st := [.int (-1)]) rfl (kRd ?_)
    show G k s0 286 [some (.ref bs), some (.ref (q 0)), some (.ref (q 10)), some (.int (nI i))] [.int (-1), .int (-1)] N q f
    refine zr_icmp_eqt (tgt := 645) X d_L_law_286 rfl rfl ?_
    exact zr_widen X (by omega) (by omega) (back N q f I0)
  · skip
    have ha1 : 0 < a := by omega
    have hlt := hp a ha1 ha
    show G k s0 278 [some (.ref bs), some (.ref (q 0)), some (.ref (q 10)), some (.int (nI i))] [] N q f
    refine zr_aload_n X d_L_law_278 rfl ?_
    refine zr_callV X K_L_41 KI_L_41 KS_L_41 (c_B_undoV (by omega) Cu0 c6 c7 V T ha1 ha) d_L_law_279 (by omega) h0 rfl rfl (by decide) (Nat.le_of_ble_eq_true rfl) ⟨by show k + 0 ≤ 600000; omega, by show s0 + 0 ≤ 7302250; omega⟩ (st := []) rfl (fun v9 N9 q9 f9 hr9 => ?_)
    obtain ⟨rfl, eN, eq9, Cu1, hfr⟩ := hr9
    rw [eN, eq9]
    show G k s0 282 [some (.ref bs), some (.ref (q 0)), some (.ref (q 10)), some (.int (nI i))] [.int (nI (par a))] N q f9
    refine zr_aload_n X d_L_law_282 rfl ?_
    refine zr_callV X K_L_44 KI_L_44 KS_L_44 (c_O_undo_y (by omega) ((hfr 10 (by decide) (by decide) (by decide) (by decide)).trans g10) ((hfr 11 (by decide) (by decide) (by decide) (by decide)).trans g11) ((hfr 12 (by decide) (by decide) (by decide) (by decide)).trans g12) ((hfr 13 (by decide) (by decide) (by decide) (by decide)).trans g13) ((hfr 14 (by decide) (by decide) (by decide) (by decide)).trans g14) ((hfr 15 (by decide) (by decide) (by decide) (by decide)).trans g15) ((hfr 16 (by decide) (by decide) (by decide) (by decide)).trans g16) ((hfr 17 (by decide) (by decide) (by decide) (by decide)).trans g17) ((hfr 18 (by decide) (by decide) (by decide) (by decide)).trans g18) ((hfr 21 (by decide) (by decide) (by decide) (by decide)).trans g21) ((hfr 22 (by decide) (by decide) (by decide) (by decide)).trans g22) htx2 hpool T M ha p2 ha1) d_L_law_283 (by omega) ((hfr 10 (by decide) (by decide) (by decide) (by decide)).trans g10) rfl rfl (by decide) (Nat.le_of_ble_eq_true rfl) ⟨by show k + 0 ≤ 600000; omega, by show s0 + 0 ≤ 7302250; omega⟩ (st := [.int (nI (par a))]) rfl (fun v8 N8 q8 f8 hr8 => ?_)
    obtain ⟨rfl, eN8, eq8, Md⟩ := hr8
    rw [eN8, eq8]
    show G k s0 286 [some (.ref bs), some (.ref (q 0)), some (.ref (q 10)), some (.int (nI i))] [.int (nI (par a)), .int (nI (par a))] N q f8
    refine zr_icmp_eqt (tgt := 645) X d_L_law_286 rfl rfl ?_
    exact zr_widen X (by omega) (by omega) (back N q f8 ⟨n, ins, par a, k1, par, com, tp, tc, tq, tz, tt, cn, lat, _, mr, sc, pa, iset, _, mr2, sc2, (C0.mov Cu1 ⟨wo, (hfr 9 (by decide) (by decide) (by decide) (by decide)).trans c9⟩ (fun jj a b c d _ => hfr jj a b c d)).keep (fun jj h => Md.2.2 jj (by omega) (by omega) (by omega) (by omega)), (M00.keep (fun jj h1 h2 => hfr jj (by omega) (by omega) (by omega) (by omega))).mov Md, P0.mov (by omega) (zMk.bk T ha1 ha p11 p12)⟩)

set_option maxRecDepth 100000 in
set_option maxHeartbeats 4000000 in
theorem L_7 {G : zT} {l : Launch} {D : va_G} {cI cC cZ cV : ClassId} {nm : String} {bs L : Nat} {xs : Nat → Int32} (X : zOK G l room_1 code 4 R_L nm D (zty cI cC cZ cV)) (S : zLW G bs L xs) {N : Nat} {q : Nat → Nat} {f : zF} {k s0 i : Nat} (hL : L ≤ 2048) (hi : i + 3 < L) (hk : k + 2 ≤ 600000) (hs : s0 + 2007 ≤ 7302250) (I : zInv cI cC cZ cV N q f) (back : ∀ (N' : Nat) (q' : Nat → Nat) (f' : zF), zInv cI cC cZ cV N' q' f' → G (k + 2) (s0 + 2007) 645 [some (.ref bs), some (.ref (q' 0)), some (.ref (q' 10)), some (.int (nI i))] [] N' q' f') : G k s0 291 [some (.ref bs), some (.ref (q 0)), some (.ref (q 10)), some (.int (nI i))] [] N q f := by
  have I0 := I
  obtain ⟨n, ins, a, k1, par, com, tp, tc, tq, tz, tt, cn, lat, mp, mr, sc, pa, iset, ma, mr2, sc2, C, M0, P⟩ := I
  have C0 := C
  have M00 := M0
  have P0 := P
  obtain ⟨c1, Cu, c3, c4, c5, c6, c7, ⟨md, c8, c8'⟩, ⟨wo, c9⟩, V⟩ := C
  have Cu0 := Cu
  obtain ⟨h0, h1, ⟨tx1, h2, htx1, hag1⟩, h6⟩ := Cu
  obtain ⟨g10, g11, g19, hsc2, g20, g21, g22, co, pl, mn, fi, pool, tx2, way, g12, g13, g14, g15, g16, g17, g18, M, Lp, hpool, htx2, hag2⟩ := M0
  obtain ⟨p1, p2, ha, p4, p5, hp0, T, p8, p9, p10, p11, p12⟩ := P
  have hza := T.2.1 a ha
  have hzi := p8 a ha
  have hp := fun v h0 h => T.lt (v := v) h0 h
  have hlat := (p9 a ha).2
  cases hl : zlt pa a n with
  | none =>
    have hv := (V a ha).1
    rw [hlat, hl] at hv
    show G k s0 291 [some (.ref bs), some (.ref (q 0)), some (.ref (q 10)), some (.int (nI i))] [] N q f
    refine zr_aload_n X d_L_law_291 rfl ?_
    refine zr_callV X K_L_45 KI_L_45 KS_L_45 (c_B_redo_0 (by omega) h0 (by omega) hv) d_L_law_292 (by omega) h0 rfl rfl (by decide) (Nat.le_of_ble_eq_true rfl) ⟨by show k + 0 ≤ 600000; omega, by show s0 + 0 ≤ 7302250; omega⟩ (st := []) rfl (kRd ?_)
    show G k s0 295 [some (.ref bs), some (.ref (q 0)), some (.ref (q 10)), some (.int (nI i))] [.int (-1)] N q f
    refine zr_aload_n X d_L_law_295 rfl ?_
    refine zr_callV X K_L_48 KI_L_48 KS_L_48 (c_O_redo_0 (by omega) g10 g11 (by omega) p2 hl) d_L_law_296 (by omega) g10 rfl rfl (by decide) (Nat.le_of_ble_eq_true rfl) ⟨by show k + 0 ≤ 600000; omega, by show s0 + 0 ≤ 7302250; omega⟩ (st := [.int (-1)]) rfl (kRd ?_)
    show G k s0 299 [some (.ref bs), some (.ref (q 0)), some (.ref (q 10)), some (.int (nI i))] [.int (-1), .int (-1)] N q f
    refine zr_icmp_eqt (tgt := 645) X d_L_law_299 rfl rfl ?_
    exact zr_widen X (by omega) (by omega) (back N q f I0)
  | some v =>
    obtain ⟨hv0, hv, hpv⟩ := zlt_some hl
    have hpav : par v = a := by
      have h9 := (M v hv0 hv).1.symm.trans hpv
      exact (nI_eq (by have := hp v hv0 hv; omega) (by omega)).mp h9
    rw [hl] at hlat
    subst hpav
    show G k s0 291 [some (.ref bs), some (.ref (q 0)), some (.ref (q 10)), some (.int (nI i))] [] N q f
    refine zr_aload_n X d_L_law_291 rfl ?_
    refine zr_callV X K_L_45 KI_L_45 KS_L_45 (c_B_redoV (by omega) Cu0 c6 c7 V T hv0 hv hlat) d_L_law_292 (by omega) h0 rfl rfl (by decide) (Nat.le_of_ble_eq_true rfl) ⟨by show k + 0 ≤ 600000; omega, by show s0 + 0 ≤ 7302250; omega⟩ (st := []) rfl (fun v9 N9 q9 f9 hr9 => ?_)
    obtain ⟨rfl, eN, eq9, Cu1, hfr⟩ := hr9
    rw [eN, eq9]
    show G k s0 295 [some (.ref bs), some (.ref (q 0)), some (.ref (q 10)), some (.int (nI i))] [.int (nI v)] N q f9
    refine zr_aload_n X d_L_law_295 rfl ?_
    refine zr_callV X K_L_48 KI_L_48 KS_L_48 (c_O_redo_y (by omega) ((hfr 10 (by decide) (by decide) (by decide) (by decide)).trans g10) ((hfr 11 (by decide) (by decide) (by decide) (by decide)).trans g11) ((hfr 12 (by decide) (by decide) (by decide) (by decide)).trans g12) ((hfr 13 (by decide) (by decide) (by decide) (by decide)).trans g13) ((hfr 14 (by decide) (by decide) (by decide) (by decide)).trans g14) ((hfr 15 (by decide) (by decide) (by decide) (by decide)).trans g15) ((hfr 16 (by decide) (by decide) (by decide) (by decide)).trans g16) ((hfr 17 (by decide) (by decide) (by decide) (by decide)).trans g17) ((hfr 18 (by decide) (by decide) (by decide) (by decide)).trans g18) ((hfr 21 (by decide) (by decide) (by decide) (by decide)).trans g21) ((hfr 22 (by decide) (by decide) (by decide) (by decide)).trans g22) htx2 hpool T M ha p2 hl hv0 hv) d_L_law_296 (by omega) ((hfr 10 (by decide) (by decide) (by decide) (by decide)).trans g10) rfl rfl (by decide) (Nat.le_of_ble_eq_true rfl) ⟨by show k + 0 ≤ 600000; omega, by show s0 + 0 ≤ 7302250; omega⟩ (st := [.int (nI v)]) rfl (fun v8 N8 q8 f8 hr8 => ?_)
    obtain ⟨rfl, eN8, eq8, Md⟩ := hr8
    rw [eN8, eq8]
    show G k s0 299 [some (.ref bs), some (.ref (q 0)), some (.ref (q 10)), some (.int (nI i))] [.int (nI v), .int (nI v)] N q f8
    refine zr_icmp_eqt (tgt := 645) X d_L_law_299 rfl rfl ?_
    exact zr_widen X (by omega) (by omega) (back N q f8 ⟨n, ins, v, k1, par, com, tp, tc, tq, tz, tt, cn, lat, _, mr, sc, pa, iset, _, mr2, sc2, (C0.mov Cu1 ⟨wo, (hfr 9 (by decide) (by decide) (by decide) (by decide)).trans c9⟩ (fun jj a b c d _ => hfr jj a b c d)).keep (fun jj h => Md.2.2 jj (by omega) (by omega) (by omega) (by omega)), (M00.keep (fun jj h1 h2 => hfr jj (by omega) (by omega) (by omega) (by omega))).mov Md, P0.mov hv (zMk.on T hv0 hv p11 p12)⟩)

set_option maxRecDepth 100000 in
set_option maxHeartbeats 4000000 in
theorem L_8 {G : zT} {l : Launch} {D : va_G} {cI cC cZ cV : ClassId} {nm : String} {bs L : Nat} {xs : Nat → Int32} (X : zOK G l room_1 code 4 R_L nm D (zty cI cC cZ cV)) (S : zLW G bs L xs) {N : Nat} {q : Nat → Nat} {f : zF} {k s0 i : Nat} (hL : L ≤ 2048) (hi : i + 3 < L) (hk : k + 2 ≤ 600000) (hs : s0 + 2007 ≤ 7302250) (I : zInv cI cC cZ cV N q f) (back : ∀ (N' : Nat) (q' : Nat → Nat) (f' : zF), zInv cI cC cZ cV N' q' f' → G (k + 2) (s0 + 2007) 645 [some (.ref bs), some (.ref (q' 0)), some (.ref (q' 10)), some (.int (nI i))] [] N' q' f') : G k s0 304 [some (.ref bs), some (.ref (q 0)), some (.ref (q 10)), some (.int (nI i))] [] N q f := by
  have I0 := I
  obtain ⟨n, ins, a, k1, par, com, tp, tc, tq, tz, tt, cn, lat, mp, mr, sc, pa, iset, ma, mr2, sc2, C, M0, P⟩ := I
  have C0 := C
  have M00 := M0
  have P0 := P
  obtain ⟨c1, Cu, c3, c4, c5, c6, c7, ⟨md, c8, c8'⟩, ⟨wo, c9⟩, V⟩ := C
  have Cu0 := Cu
  obtain ⟨h0, h1, ⟨tx1, h2, htx1, hag1⟩, h6⟩ := Cu
  obtain ⟨g10, g11, g19, hsc2, g20, g21, g22, co, pl, mn, fi, pool, tx2, way, g12, g13, g14, g15, g16, g17, g18, M, Lp, hpool, htx2, hag2⟩ := M0
  obtain ⟨p1, p2, ha, p4, p5, hp0, T, p8, p9, p10, p11, p12⟩ := P
  have hza := T.2.1 a ha
  have hzi := p8 a ha
  have hp := fun v h0 h => T.lt (v := v) h0 h
  generalize hx : xs (i + 1) = x
  rcases z_ix x (n := n) (by omega) with ⟨v, hv, rfl⟩ | hno
  · skip
    obtain ⟨kb, ko, w⟩ := zWay_is hp hp0 ha hv
    show G k s0 304 [some (.ref bs), some (.ref (q 0)), some (.ref (q 10)), some (.int (nI i))] [] N q f
    refine zr_aload_n X d_L_law_304 rfl ?_
    refine zr_aload_n X d_L_law_305 rfl ?_
    refine zr_iload_n X d_L_law_306 rfl ?_
    refine zr_iconst (v := nI 1) X d_L_law_307 (by decide) ?_
    refine zr_iadd (z := nI (i + 1)) X d_L_law_308 (nI_add _ _) ?_
    refine zs_ld (v := nI v) S d_L_law_309 (by omega) hL hx ?_
    refine zr_callV X K_L_49 KI_L_49 KS_L_49 (c_B_goTo_y (by omega) c6 c7 V T c8 c9 p2 hp0 ha hv w (c8' v hv) Cu0) d_L_law_310 (by omega) h0 rfl rfl (by decide) (Nat.le_of_ble_eq_true rfl) ⟨by show k + 0 ≤ 600000; omega, by show s0 + 0 ≤ 7302250; omega⟩ (st := []) rfl (fun v9 N9 q9 f9 hr9 => ?_)
    obtain ⟨rfl, eN, eq9, Cu1, hfr, wo9, hf9⟩ := hr9
    rw [eN, eq9]
    show G k s0 313 [some (.ref bs), some (.ref (q 0)), some (.ref (q 10)), some (.int (nI i))] [.int (nI (kb + ko))] N q f9
    refine zr_aload_n X d_L_law_313 rfl ?_
    refine zr_aload_n X d_L_law_314 rfl ?_
    refine zr_iload_n X d_L_law_315 rfl ?_
    refine zr_iconst (v := nI 1) X d_L_law_316 (by decide) ?_
    refine zr_iadd (z := nI (i + 1)) X d_L_law_317 (nI_add _ _) ?_
    refine zs_ld (v := nI v) S d_L_law_318 (by omega) hL hx ?_
    refine zr_callV X K_L_52 KI_L_52 KS_L_52 (c_O_goTo_y (by omega) ((hfr 10 (by decide) (by decide) (by decide) (by decide) (by decide)).trans g10) ((hfr 11 (by decide) (by decide) (by decide) (by decide) (by decide)).trans g11) ((hfr 12 (by decide) (by decide) (by decide) (by decide) (by decide)).trans g12) ((hfr 13 (by decide) (by decide) (by decide) (by decide) (by decide)).trans g13) ((hfr 14 (by decide) (by decide) (by decide) (by decide) (by decide)).trans g14) ((hfr 15 (by decide) (by decide) (by decide) (by decide) (by decide)).trans g15) ((hfr 16 (by decide) (by decide) (by decide) (by decide) (by decide)).trans g16) ((hfr 17 (by decide) (by decide) (by decide) (by decide) (by decide)).trans g17) ((hfr 18 (by decide) (by decide) (by decide) (by decide) (by decide)).trans g18) ((hfr 21 (by decide) (by decide) (by decide) (by decide) (by decide)).trans g21) ((hfr 22 (by decide) (by decide) (by decide) (by decide) (by decide)).trans g22) htx2 hpool T M ha p2 hp0 hv w) d_L_law_319 (by omega) ((hfr 10 (by decide) (by decide) (by decide) (by decide) (by decide)).trans g10) rfl rfl (by decide) (Nat.le_of_ble_eq_true rfl) ⟨by show k + 0 ≤ 600000; omega, by show s0 + 0 ≤ 7302250; omega⟩ (st := [.int (nI (kb + ko))]) rfl (fun v8 N8 q8 f8 hr8 => ?_)
    obtain ⟨rfl, eN8, eq8, Md⟩ := hr8
    rw [eN8, eq8]
    show G k s0 322 [some (.ref bs), some (.ref (q 0)), some (.ref (q 10)), some (.int (nI i))] [.int (nI (kb + ko)), .int (nI (kb + ko))] N q f8
    refine zr_icmp_eqt (tgt := 645) X d_L_law_322 rfl rfl ?_
    exact zr_widen X (by omega) (by omega) (back N q f8 ⟨n, ins, v, k1, par, com, tp, tc, tq, tz, tt, cn, lat, _, mr, sc, pa, iset, _, mr2, sc2, (C0.mov Cu1 ⟨_, hf9⟩ hfr).keep (fun jj h => Md.2.2 jj (by omega) (by omega) (by omega) (by omega)), (M00.keep (fun jj h1 h2 => hfr jj (by omega) (by omega) (by omega) (by omega) (by omega))).mov Md, P0.mov hv (zMk.way T hp0 ha hv w p11 p12)⟩)
  · skip
    show G k s0 304 [some (.ref bs), some (.ref (q 0)), some (.ref (q 10)), some (.int (nI i))] [] N q f
    refine zr_aload_n X d_L_law_304 rfl ?_
    refine zr_aload_n X d_L_law_305 rfl ?_
    refine zr_iload_n X d_L_law_306 rfl ?_
    refine zr_iconst (v := nI 1) X d_L_law_307 (by decide) ?_
    refine zr_iadd (z := nI (i + 1)) X d_L_law_308 (nI_add _ _) ?_
    refine zs_ld (v := x) S d_L_law_309 (by omega) hL hx ?_
    refine zr_callV X K_L_49 KI_L_49 KS_L_49 (c_B_goTo_n (by omega) h0 hno) d_L_law_310 (by omega) h0 rfl rfl (by decide) (Nat.le_of_ble_eq_true rfl) ⟨by show k + 0 ≤ 600000; omega, by show s0 + 0 ≤ 7302250; omega⟩ (st := []) rfl (kRd ?_)
    show G k s0 313 [some (.ref bs), some (.ref (q 0)), some (.ref (q 10)), some (.int (nI i))] [.int (-1)] N q f
    refine zr_aload_n X d_L_law_313 rfl ?_
    refine zr_aload_n X d_L_law_314 rfl ?_
    refine zr_iload_n X d_L_law_315 rfl ?_
    refine zr_iconst (v := nI 1) X d_L_law_316 (by decide) ?_
    refine zr_iadd (z := nI (i + 1)) X d_L_law_317 (nI_add _ _) ?_
    refine zs_ld (v := x) S d_L_law_318 (by omega) hL hx ?_
    refine zr_callV X K_L_52 KI_L_52 KS_L_52 (c_O_goTo_n (by omega) g10 hno) d_L_law_319 (by omega) g10 rfl rfl (by decide) (Nat.le_of_ble_eq_true rfl) ⟨by show k + 0 ≤ 600000; omega, by show s0 + 0 ≤ 7302250; omega⟩ (st := [.int (-1)]) rfl (kRd ?_)
    show G k s0 322 [some (.ref bs), some (.ref (q 0)), some (.ref (q 10)), some (.int (nI i))] [.int (-1), .int (-1)] N q f
    refine zr_icmp_eqt (tgt := 645) X d_L_law_322 rfl rfl ?_
    exact zr_widen X (by omega) (by omega) (back N q f I0)
