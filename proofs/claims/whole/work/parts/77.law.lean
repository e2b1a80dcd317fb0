set_option maxRecDepth 100000 in
set_option maxHeartbeats 4000000 in
theorem L_19 {G : zT} {l : Launch} {D : va_G} {cI cC cZ cV : ClassId} {nm : String} {bs L : Nat} {xs : Nat → Int32} (X : zOK G l room_1 code 4 R_L nm D (zty cI cC cZ cV)) (S : zLW G bs L xs) {N : Nat} {q : Nat → Nat} {f : zF} {k s0 i : Nat} (hL : L ≤ 2048) (hi : i + 3 < L) (hk : k + 2 ≤ 600000) (hs : s0 + 2007 ≤ 7302250) (I : zInv cI cC cZ cV N q f) (back : ∀ (N' : Nat) (q' : Nat → Nat) (f' : zF), zInv cI cC cZ cV N' q' f' → G (k + 2) (s0 + 2007) 645 [some (.ref bs), some (.ref (q' 0)), some (.ref (q' 10)), some (.int (nI i))] [] N' q' f') : G k s0 517 [some (.ref bs), some (.ref (q 0)), some (.ref (q 10)), some (.int (nI i))] [] N q f := by
  have I0 := I
  obtain ⟨n, ins, a, k1, par, com, tp, tc, tq, tz, tt, cn, lat, mp, mr, sc, pa, iset, ma, mr2, sc2, C, M0, P⟩ := I
  have C0 := C
  have M00 := M0
  have P0 := P
  obtain ⟨c1, Cu, c3, c4, c5, c6, c7, ⟨md, c8, c8'⟩, ⟨wo, c9⟩, V⟩ := C
  have Cu0 := Cu
  obtain ⟨h0, h1, ⟨tx1, h2, htx1, hag1⟩, h6⟩ := Cu
  obtain ⟨g10, g11, g19, hsc2, g20, g21, g22, co, pl, mn, fi, pool, tx2, way, g12, g13, g14, g15, g16, g17, g18, M, Lp, hpool, htx2, hag2⟩ := M0
  obtain ⟨p1, p2, ha, p4, p5, hp0, T, p8, p9, p10, p11, p12⟩ := P
  have hza := T.2.1 a ha
  have hzi := p8 a ha
  have hp := fun v h0 h => T.lt (v := v) h0 h
  generalize hx : xs (i + 1) = x
  generalize hy : xs (i + 2) = y
  generalize hz : xs (i + 3) = z
  rcases z_posn x (n := 5) (by omega) with ⟨m, hm, rfl⟩ | hno
  · skip
    rcases z_posn y (n := tz a) (by omega) with ⟨p, hpp, rfl⟩ | hno
    · skip
      by_cases hz0 : z = 0
      · skip
        show G k s0 517 [some (.ref bs), some (.ref (q 0)), some (.ref (q 10)), some (.int (nI i))] [] N q f
        refine zr_aload_n X d_L_law_517 rfl ?_
        refine zr_aload_n X d_L_law_518 rfl ?_
        refine zr_iload_n X d_L_law_519 rfl ?_
        refine zr_iconst (v := nI 1) X d_L_law_520 (by decide) ?_
        refine zr_iadd (z := nI (i + 1)) X d_L_law_521 (nI_add _ _) ?_
        refine zs_ld (v := nI m) S d_L_law_522 (by omega) hL hx ?_
        refine zr_aload_n X d_L_law_523 rfl ?_
        refine zr_iload_n X d_L_law_524 rfl ?_
        refine zr_iconst (v := nI 2) X d_L_law_525 (by decide) ?_
        refine zr_iadd (z := nI (i + 2)) X d_L_law_526 (nI_add _ _) ?_
        refine zs_ld (v := nI p) S d_L_law_527 (by omega) hL hy ?_
        refine zr_aload_n X d_L_law_528 rfl ?_
        refine zr_iload_n X d_L_law_529 rfl ?_
        refine zr_iconst (v := nI 3) X d_L_law_530 (by decide) ?_
        refine zr_iadd (z := nI (i + 3)) X d_L_law_531 (nI_add _ _) ?_
        refine zs_ld (v := z) S d_L_law_532 (by omega) hL hz ?_
        refine zr_if_eqt (tgt := 540) X d_L_law_533 rfl hz0 ?_
        refine zr_iconst (v := nI 0) X d_L_law_540 (by decide) ?_
        refine zr_callV X K_L_94 KI_L_94 KS_L_94 (c_B_mark_y (by omega) h0 h1 c6 h6 c7 (by omega) hpp hza (by decide)) d_L_law_541 (by omega) h0 rfl rfl (by decide) (Nat.le_of_ble_eq_true rfl) ⟨by show k + 0 ≤ 600000; omega, by show s0 + 0 ≤ 7302250; omega⟩ (st := []) rfl (fun v9 N9 q9 f9 hr9 => ?_)
        obtain ⟨rfl, eN, eq9, rfl⟩ := hr9
        rw [eN, eq9]
        show G k s0 544 [some (.ref bs), some (.ref (q 0)), some (.ref (q 10)), some (.int (nI i))] [.int (nI 1)] N q (va_up (va_up f 6 (.inl (cI, 6, .inl (upd mp m (nI p))))) 7 (.inl (cZ, 6, .inl (upd mr m (nI 0)))))
        refine zr_aload_n X d_L_law_544 rfl ?_
        refine zr_aload_n X d_L_law_545 rfl ?_
        refine zr_iload_n X d_L_law_546 rfl ?_
        refine zr_iconst (v := nI 1) X d_L_law_547 (by decide) ?_
        refine zr_iadd (z := nI (i + 1)) X d_L_law_548 (nI_add _ _) ?_
        refine zs_ld (v := nI m) S d_L_law_549 (by omega) hL hx ?_
        refine zr_aload_n X d_L_law_550 rfl ?_
        refine zr_iload_n X d_L_law_551 rfl ?_
        refine zr_iconst (v := nI 2) X d_L_law_552 (by decide) ?_
        refine zr_iadd (z := nI (i + 2)) X d_L_law_553 (nI_add _ _) ?_
        refine zs_ld (v := nI p) S d_L_law_554 (by omega) hL hy ?_
        refine zr_aload_n X d_L_law_555 rfl ?_
        refine zr_iload_n X d_L_law_556 rfl ?_
        refine zr_iconst (v := nI 3) X d_L_law_557 (by decide) ?_
        refine zr_iadd (z := nI (i + 3)) X d_L_law_558 (nI_add _ _) ?_
        refine zs_ld (v := z) S d_L_law_559 (by omega) hL hz ?_
        refine zr_if_eqt (tgt := 567) X d_L_law_560 rfl hz0 ?_
        refine zr_iconst (v := nI 0) X d_L_law_567 (by decide) ?_
        refine zr_callV X K_L_98 KI_L_98 KS_L_98 (c_O_mark_y (by omega) (up_ne (by decide) (up_ne (by decide) g10)) (up_ne (by decide) (up_ne (by decide) g20)) (up_ne (by decide) (up_ne (by decide) g21)) (up_ne (by decide) (up_ne (by decide) g22)) (by omega) hpp hza (by decide)) d_L_law_568 (by omega) (up_ne (by decide) (up_ne (by decide) g10)) rfl rfl (by decide) (Nat.le_of_ble_eq_true rfl) ⟨by show k + 0 ≤ 600000; omega, by show s0 + 0 ≤ 7302250; omega⟩ (st := [.int (nI 1)]) rfl (fun v9 N9 q9 f9 hr9 => ?_)
        obtain ⟨rfl, eN, eq9, rfl⟩ := hr9
        rw [eN, eq9]
        show G k s0 571 [some (.ref bs), some (.ref (q 0)), some (.ref (q 10)), some (.int (nI i))] [.int (nI 1), .int (nI 1)] N q (va_up (va_up (va_up (va_up (va_up f 6 (.inl (cI, 6, .inl (upd mp m (nI p))))) 7 (.inl (cZ, 6, .inl (upd mr m (nI 0))))) 20 (.inl (cZ, 6, .inl (upd iset m (nI 1))))) 21 (.inl (cI, 6, .inl (upd ma m (nI p))))) 22 (.inl (cZ, 6, .inl (upd mr2 m (nI 0)))))
        refine zr_icmp_eqt (tgt := 645) X d_L_law_571 rfl rfl ?_
        exact zr_widen X (by omega) (by omega) (back N q _ ⟨n, ins, a, k1, par, com, tp, tc, tq, tz, tt, cn, lat, upd mp m (nI p), upd mr m (nI 0), sc, pa, upd iset m (nI 1), upd ma m (nI p), upd mr2 m (nI 0), sc2, (C0.mrk (up_ne (by decide) up_eq) up_eq (fun jj a b => up_ne b (up_ne a rfl))).keep (fun jj h => up_ne (by omega) (up_ne (by omega) (up_ne (by omega) rfl))), (M00.keep (fun jj h1 h2 => up_ne (by omega) (up_ne (by omega) rfl))).mrk (up_ne (by decide) (up_ne (by decide) up_eq)) (up_ne (by decide) up_eq) up_eq (fun jj h => up_ne (by omega) (up_ne (by omega) (up_ne (by omega) rfl))), P0.mrk (fun t ht => by
          by_cases htm : t = m
          · rw [htm, pk_us, pk_us, pk_us]
            exact ⟨p, hpp, rfl, Or.inl ⟨rfl, rfl⟩⟩
          · rw [pk_un htm, pk_un htm, pk_un htm]
            exact p11 t ht) (fun t ht => by
          by_cases htm : t = m
          · rw [htm, pk_us, pk_us]
          · rw [pk_un htm, pk_un htm]
            exact p12 t ht)⟩)
      · skip
        show G k s0 517 [some (.ref bs), some (.ref (q 0)), some (.ref (q 10)), some (.int (nI i))] [] N q f
        refine zr_aload_n X d_L_law_517 rfl ?_
        refine zr_aload_n X d_L_law_518 rfl ?_
        refine zr_iload_n X d_L_law_519 rfl ?_
        refine zr_iconst (v := nI 1) X d_L_law_520 (by decide) ?_
        refine zr_iadd (z := nI (i + 1)) X d_L_law_521 (nI_add _ _) ?_
        refine zs_ld (v := nI m) S d_L_law_522 (by omega) hL hx ?_
        refine zr_aload_n X d_L_law_523 rfl ?_
        refine zr_iload_n X d_L_law_524 rfl ?_
        refine zr_iconst (v := nI 2) X d_L_law_525 (by decide) ?_
        refine zr_iadd (z := nI (i + 2)) X d_L_law_526 (nI_add _ _) ?_
        refine zs_ld (v := nI p) S d_L_law_527 (by omega) hL hy ?_
        refine zr_aload_n X d_L_law_528 rfl ?_
        refine zr_iload_n X d_L_law_529 rfl ?_
        refine zr_iconst (v := nI 3) X d_L_law_530 (by decide) ?_
        refine zr_iadd (z := nI (i + 3)) X d_L_law_531 (nI_add _ _) ?_
        refine zs_ld (v := z) S d_L_law_532 (by omega) hL hz ?_
        refine zr_if_eqf (tgt := 540) X d_L_law_533 rfl hz0 ?_
        refine zr_iconst (v := nI 1) X d_L_law_536 (by decide) ?_
        refine zr_goto (tgt := 541) X d_L_law_537 rfl ?_
        refine zr_callV X K_L_94 KI_L_94 KS_L_94 (c_B_mark_y (by omega) h0 h1 c6 h6 c7 (by omega) hpp hza (by decide)) d_L_law_541 (by omega) h0 rfl rfl (by decide) (Nat.le_of_ble_eq_true rfl) ⟨by show k + 0 ≤ 600000; omega, by show s0 + 0 ≤ 7302250; omega⟩ (st := []) rfl (fun v9 N9 q9 f9 hr9 => ?_)
        obtain ⟨rfl, eN, eq9, rfl⟩ := hr9
        rw [eN, eq9]
        show G k s0 544 [some (.ref bs), some (.ref (q 0)), some (.ref (q 10)), some (.int (nI i))] [.int (nI 1)] N q (va_up (va_up f 6 (.inl (cI, 6, .inl (upd mp m (nI p))))) 7 (.inl (cZ, 6, .inl (upd mr m (nI 1)))))
        refine zr_aload_n X d_L_law_544 rfl ?_
        refine zr_aload_n X d_L_law_545 rfl ?_
        refine zr_iload_n X d_L_law_546 rfl ?_
        refine zr_iconst (v := nI 1) X d_L_law_547 (by decide) ?_
        refine zr_iadd (z := nI (i + 1)) X d_L_law_548 (nI_add _ _) ?_
        refine zs_ld (v := nI m) S d_L_law_549 (by omega) hL hx ?_
        refine zr_aload_n X d_L_law_550 rfl ?_
        refine zr_iload_n X d_L_law_551 rfl ?_
        refine zr_iconst (v := nI 2) X d_L_law_552 (by decide) ?_
        refine zr_iadd (z := nI (i + 2)) X d_L_law_553 (nI_add _ _) ?_
        refine zs_ld (v := nI p) S d_L_law_554 (by omega) hL hy ?_
        refine zr_aload_n X d_L_law_555 rfl ?_
        refine zr_iload_n X d_L_law_556 rfl ?_
        refine zr_iconst (v := nI 3) X d_L_law_557 (by decide) ?_
        refine zr_iadd (z := nI (i + 3)) X d_L_law_558 (nI_add _ _) ?_
        refine zs_ld (v := z) S d_L_law_559 (by omega) hL hz ?_
        refine zr_if_eqf (tgt := 567) X d_L_law_560 rfl hz0 ?_
        refine zr_iconst (v := nI 1) X d_L_law_563 (by decide) ?_
        refine zr_goto (tgt := 568) X d_L_law_564 rfl ?_
        refine zr_callV X K_L_98 KI_L_98 KS_L_98 (c_O_mark_y (by omega) (up_ne (by decide) (up_ne (by decide) g10)) (up_ne (by decide) (up_ne (by decide) g20)) (up_ne (by decide) (up_ne (by decide) g21)) (up_ne (by decide) (up_ne (by decide) g22)) (by omega) hpp hza (by decide)) d_L_law_568 (by omega) (up_ne (by decide) (up_ne (by decide) g10)) rfl rfl (by decide) (Nat.le_of_ble_eq_true rfl) ⟨by show k + 0 ≤ 600000; omega, by show s0 + 0 ≤ 7302250; omega⟩ (st := [.int (nI 1)]) rfl (fun v9 N9 q9 f9 hr9 => ?_)
        obtain ⟨rfl, eN, eq9, rfl⟩ := hr9
        rw [eN, eq9]
        show G k s0 571 [some (.ref bs), some (.ref (q 0)), some (.ref (q 10)), some (.int (nI i))] [.int (nI 1), .int (nI 1)] N q (va_up (va_up (va_up (va_up (va_up f 6 (.inl (cI, 6, .inl (upd mp m (nI p))))) 7 (.inl (cZ, 6, .inl (upd mr m (nI 1))))) 20 (.inl (cZ, 6, .inl (upd iset m (nI 1))))) 21 (.inl (cI, 6, .inl (upd ma m (nI p))))) 22 (.inl (cZ, 6, .inl (upd mr2 m (nI 1)))))
        refine zr_icmp_eqt (tgt := 645) X d_L_law_571 rfl rfl ?_
        exact zr_widen X (by omega) (by omega) (back N q _ ⟨n, ins, a, k1, par, com, tp, tc, tq, tz, tt, cn, lat, upd mp m (nI p), upd mr m (nI 1), sc, pa, upd iset m (nI 1), upd ma m (nI p), upd mr2 m (nI 1), sc2, (C0.mrk (up_ne (by decide) up_eq) up_eq (fun jj a b => up_ne b (up_ne a rfl))).keep (fun jj h => up_ne (by omega) (up_ne (by omega) (up_ne (by omega) rfl))), (M00.keep (fun jj h1 h2 => up_ne (by omega) (up_ne (by omega) rfl))).mrk (up_ne (by decide) (up_ne (by decide) up_eq)) (up_ne (by decide) up_eq) up_eq (fun jj h => up_ne (by omega) (up_ne (by omega) (up_ne (by omega) rfl))), P0.mrk (fun t ht => by
          by_cases htm : t = m
          · rw [htm, pk_us, pk_us, pk_us]
            exact ⟨p, hpp, rfl, Or.inl ⟨rfl, rfl⟩⟩
          · rw [pk_un htm, pk_un htm, pk_un htm]
            exact p11 t ht) (fun t ht => by
          by_cases htm : t = m
          · rw [htm, pk_us, pk_us]
          · rw [pk_un htm, pk_un htm]
            exact p12 t ht)⟩)
    · skip
      by_cases hz0 : z = 0
      · skip
        show G k s0 517 [some (.ref bs), some (.ref (q 0)), some (.ref (q 10)), some (.int (nI i))] [] N q f
        refine zr_aload_n X d_L_law_517 rfl ?_
        refine zr_aload_n X d_L_law_518 rfl ?_
        refine zr_iload_n X d_L_law_519 rfl ?_
        refine zr_iconst (v := nI 1) X d_L_law_520 (by decide) ?_
        refine zr_iadd (z := nI (i + 1)) X d_L_law_521 (nI_add _ _) ?_
        refine zs_ld (v := nI m) S d_L_law_522 (by omega) hL hx ?_
        refine zr_aload_n X d_L_law_523 rfl ?_
        refine zr_iload_n X d_L_law_524 rfl ?_
        refine zr_iconst (v := nI 2) X d_L_law_525 (by decide) ?_
        refine zr_iadd (z := nI (i + 2)) X d_L_law_526 (nI_add _ _) ?_
        refine zs_ld (v := y) S d_L_law_527 (by omega) hL hy ?_
        refine zr_aload_n X d_L_law_528 rfl ?_
        refine zr_iload_n X d_L_law_529 rfl ?_
        refine zr_iconst (v := nI 3) X d_L_law_530 (by decide) ?_
        refine zr_iadd (z := nI (i + 3)) X d_L_law_531 (nI_add _ _) ?_
        refine zs_ld (v := z) S d_L_law_532 (by omega) hL hz ?_
        refine zr_if_eqt (tgt := 540) X d_L_law_533 rfl hz0 ?_
        refine zr_iconst (v := nI 0) X d_L_law_540 (by decide) ?_
        refine zr_callV X K_L_94 KI_L_94 KS_L_94 (c_B_mark_n2 (by omega) h0 h1 (by omega) hno) d_L_law_541 (by omega) h0 rfl rfl (by decide) (Nat.le_of_ble_eq_true rfl) ⟨by show k + 0 ≤ 600000; omega, by show s0 + 0 ≤ 7302250; omega⟩ (st := []) rfl (kRd ?_)
        show G k s0 544 [some (.ref bs), some (.ref (q 0)), some (.ref (q 10)), some (.int (nI i))] [.int (nI 0)] N q f
        refine zr_aload_n X d_L_law_544 rfl ?_
        refine zr_aload_n X d_L_law_545 rfl ?_
        refine zr_iload_n X d_L_law_546 rfl ?_
        refine zr_iconst (v := nI 1) X d_L_law_547 (by decide) ?_
        refine zr_iadd (z := nI (i + 1)) X d_L_law_548 (nI_add _ _) ?_
        refine zs_ld (v := nI m) S d_L_law_549 (by omega) hL hx ?_
        refine zr_aload_n X d_L_law_550 rfl ?_
        refine zr_iload_n X d_L_law_551 rfl ?_
        refine zr_iconst (v := nI 2) X d_L_law_552 (by decide) ?_
        refine zr_iadd (z := nI (i + 2)) X d_L_law_553 (nI_add _ _) ?_
        refine zs_ld (v := y) S d_L_law_554 (by omega) hL hy ?_
        refine zr_aload_n X d_L_law_555 rfl ?_
        refine zr_iload_n X d_L_law_556 rfl ?_
        refine zr_iconst (v := nI 3) X d_L_law_557 (by decide) ?_
        refine zr_iadd (z := nI (i + 3)) X d_L_law_558 (nI_add _ _) ?_
        refine zs_ld (v := z) S d_L_law_559 (by omega) hL hz ?_
        refine zr_if_eqt (tgt := 567) X d_L_law_560 rfl hz0 ?_
        refine zr_iconst (v := nI 0) X d_L_law_567 (by decide) ?_
        refine zr_callV X K_L_98 KI_L_98 KS_L_98 (c_O_mark_n2 (by omega) g10 (by omega) hno) d_L_law_568 (by omega) g10 rfl rfl (by decide) (Nat.le_of_ble_eq_true rfl) ⟨by show k + 0 ≤ 600000; omega, by show s0 + 0 ≤ 7302250; omega⟩ (st := [.int (nI 0)]) rfl (kRd ?_)
        show G k s0 571 [some (.ref bs), some (.ref (q 0)), some (.ref (q 10)), some (.int (nI i))] [.int (nI 0), .int (nI 0)] N q f
        refine zr_icmp_eqt (tgt := 645) X d_L_law_571 rfl rfl ?_
        exact zr_widen X (by omega) (by omega) (back N q f I0)
      · skip
        show G k s0 517 [some (.ref bs), some (.ref (q 0)), some (.ref (q 10)), some (.int (nI i))] [] N q f
        refine zr_aload_n X d_L_law_517 rfl ?_
        refine zr_aload_n X d_L_law_518 rfl ?_
        refine zr_iload_n X d_L_law_519 rfl ?_
        refine zr_iconst (v := nI 1) X d_L_law_520 (by decide) ?_
        refine zr_iadd (z := nI (i + 1)) X d_L_law_521 (nI_add _ _) ?_
        refine zs_ld (v := nI m) S d_L_law_522 (by omega) hL hx ?_
        refine zr_aload_n X d_L_law_523 rfl ?_
        refine zr_iload_n X d_L_law_524 rfl ?_
        refine zr_iconst (v := nI 2) X d_L_law_525 (by decide) ?_
        refine zr_iadd (z := nI (i + 2)) X d_L_law_526 (nI_add _ _) ?_
        refine zs_ld (v := y) S d_L_law_527 (by omega) hL hy ?_
        refine zr_aload_n X d_L_law_528 rfl ?_
        refine zr_iload_n X d_L_law_529 rfl ?_
        refine zr_iconst (v := nI 3) X d_L_law_530 (by decide) ?_
        refine zr_iadd (z := nI (i + 3)) X d_L_law_531 (nI_add _ _) ?_
        refine zs_ld (v := z) S d_L_law_532 (by omega) hL hz ?_
        refine zr_if_eqf (tgt := 540) X d_L_law_533 rfl hz0 ?_
        refine zr_iconst (v := nI 1) X d_L_law_536 (by decide) ?_
        refine zr_goto (tgt := 541) X d_L_law_537 rfl ?_
        refine zr_callV X K_L_94 KI_L_94 KS_L_94 (c_B_mark_n2 (by omega) h0 h1 (by omega) hno) d_L_law_541 (by omega) h0 rfl rfl (by decide) (Nat.le_of_ble_eq_true rfl) ⟨by show k + 0 ≤ 600000; omega, by show s0 + 0 ≤ 7302250; omega⟩ (st := []) rfl (kRd ?_)
        show G k s0 544 [some (.ref bs), some (.ref (q 0)), some (.ref (q 10)), some (.int (nI i))] [.int (nI 0)] N q f
        refine zr_aload_n X d_L_law_544 rfl ?_
        refine zr_aload_n X d_L_law_545 rfl ?_
        refine zr_iload_n X d_L_law_546 rfl ?_
        refine zr_iconst (v := nI 1) X d_L_law_547 (by decide) ?_
        refine zr_iadd (z := nI (i + 1)) X d_L_law_548 (nI_add _ _) ?_
        refine zs_ld (v := nI m) S d_L_law_549 (by omega) hL hx ?_
        refine zr_aload_n X d_L_law_550 rfl ?_
        refine zr_iload_n X d_L_law_551 rfl ?_
        refine zr_iconst (v := nI 2) X d_L_law_552 (by decide) ?_
        refine zr_iadd (z := nI (i + 2)) X d_L_law_553 (nI_add _ _) ?_
        refine zs_ld (v := y) S d_L_law_554 (by omega) hL hy ?_
        refine zr_aload_n X d_L_law_555 rfl ?_
        refine zr_iload_n X d_L_law_556 rfl ?_
        refine zr_iconst (v := nI 3) X d_L_law_557 (by decide) ?_
        refine zr_iadd (z := nI (i + 3)) X d_L_law_558 (nI_add _ _) ?_
        refine zs_ld (v := z) S d_L_law_559 (by omega) hL hz ?_
        refine zr_if_eqf (tgt := 567) X d_L_law_560 rfl hz0 ?_
        refine zr_iconst (v := nI 1) X d_L_law_563 (by decide) ?_
        refine zr_goto (tgt := 568) X d_L_law_564 rfl ?_
        refine zr_callV X K_L_98 KI_L_98 KS_L_98 (c_O_mark_n2 (by omega) g10 (by omega) hno) d_L_law_568 (by omega) g10 rfl rfl (by decide) (Nat.le_of_ble_eq_true rfl) ⟨by show k + 0 ≤ 600000; omega, by show s0 + 0 ≤ 7302250; omega⟩ (st := [.int (nI 0)]) rfl (kRd ?_)
        show G k s0 571 [some (.ref bs), some (.ref (q 0)), some (.ref (q 10)), some (.int (nI i))] [.int (nI 0), .int (nI 0)] N q f
        refine zr_icmp_eqt (tgt := 645) X d_L_law_571 rfl rfl ?_
        exact zr_widen X (by omega) (by omega) (back N q f I0)
  · skip
    by_cases hz0 : z = 0
    · skip
      show G k s0 517 [some (.ref bs), some (.ref (q 0)), some (.ref (q 10)), some (.int (nI i))] [] N q f
      refine zr_aload_n X d_L_law_517 rfl ?_
      refine zr_aload_n X d_L_law_518 rfl ?_
      refine zr_iload_n X d_L_law_519 rfl ?_
      refine zr_iconst (v := nI 1) X d_L_law_520 (by decide) ?_
      refine zr_iadd (z := nI (i + 1)) X d_L_law_521 (nI_add _ _) ?_
      refine zs_ld (v := x) S d_L_law_522 (by omega) hL hx ?_
      refine zr_aload_n X d_L_law_523 rfl ?_
      refine zr_iload_n X d_L_law_524 rfl ?_
      refine zr_iconst (v := nI 2) X d_L_law_525 (by decide) ?_
      refine zr_iadd (z := nI (i + 2)) X d_L_law_526 (nI_add _ _) ?_
      refine zs_ld (v := y) S d_L_law_527 (by omega) hL hy ?_
      refine zr_aload_n X d_L_law_528 rfl ?_
      refine zr_iload_n X d_L_law_529 rfl ?_
      refine zr_iconst (v := nI 3) X d_L_law_530 (by decide) ?_
      refine zr_iadd (z := nI (i + 3)) X d_L_law_531 (nI_add _ _) ?_
      refine zs_ld (v := z) S d_L_law_532 (by omega) hL hz ?_
      refine zr_if_eqt (tgt := 540) X d_L_law_533 rfl hz0 ?_
      refine zr_iconst (v := nI 0) X d_L_law_540 (by decide) ?_
      refine zr_callV X K_L_94 KI_L_94 KS_L_94 (c_B_mark_n1 (by omega) h0 hno) d_L_law_541 (by omega) h0 rfl rfl (by decide) (Nat.le_of_ble_eq_true rfl) ⟨by show k + 0 ≤ 600000; omega, by show s0 + 0 ≤ 7302250; omega⟩ (st := []) rfl (kRd ?_)
      show G k s0 544 [some (.ref bs), some (.ref (q 0)), some (.ref (q 10)), some (.int (nI i))] [.int (nI 0)] N q f
      refine zr_aload_n X d_L_law_544 rfl ?_
      refine zr_aload_n X d_L_law_545 rfl ?_
      refine zr_iload_n X d_L_law_546 rfl ?_
      refine zr_iconst (v := nI 1) X d_L_law_547 (by decide) ?_
      refine zr_iadd (z := nI (i + 1)) X d_L_law_548 (nI_add _ _) ?_
      refine zs_ld (v := x) S d_L_law_549 (by omega) hL hx ?_
      refine zr_aload_n X d_L_law_550 rfl ?_
      refine zr_iload_n X d_L_law_551 rfl ?_
      refine zr_iconst (v := nI 2) X d_L_law_552 (by decide) ?_
      refine zr_iadd (z := nI (i + 2)) X d_L_law_553 (nI_add _ _) ?_
      refine zs_ld (v := y) S d_L_law_554 (by omega) hL hy ?_
      refine zr_aload_n X d_L_law_555 rfl ?_
      refine zr_iload_n X d_L_law_556 rfl ?_
      refine zr_iconst (v := nI 3) X d_L_law_557 (by decide) ?_
      refine zr_iadd (z := nI (i + 3)) X d_L_law_558 (nI_add _ _) ?_
      refine zs_ld (v := z) S d_L_law_559 (by omega) hL hz ?_
      refine zr_if_eqt (tgt := 567) X d_L_law_560 rfl hz0 ?_
      refine zr_iconst (v := nI 0) X d_L_law_567 (by decide) ?_
      refine zr_callV X K_L_98 KI_L_98 KS_L_98 (c_O_mark_n1 (by omega) g10 hno) d_L_law_568 (by omega) g10 rfl rfl (by decide) (Nat.le_of_ble_eq_true rfl) ⟨by show k + 0 ≤ 600000; omega, by show s0 + 0 ≤ 7302250; omega⟩ (st := [.int (nI 0)]) rfl (kRd ?_)
      show G k s0 571 [some (.ref bs), some (.ref (q 0)), some (.ref (q 10)), some (.int (nI i))] [.int (nI 0), .int (nI 0)] N q f
      refine zr_icmp_eqt (tgt := 645) X d_L_law_571 rfl rfl ?_
      exact zr_widen X (by omega) (by omega) (back N q f I0)
    · skip
      show G k s0 517 [some (.ref bs), some (.ref (q 0)), some (.ref (q 10)), some (.int (nI i))] [] N q f
      refine zr_aload_n X d_L_law_517 rfl ?_
      refine zr_aload_n X d_L_law_518 rfl ?_
      refine zr_iload_n X d_L_law_519 rfl ?_
      refine zr_iconst (v := nI 1) X d_L_law_520 (by decide) ?_
      refine zr_iadd (z := nI (i + 1)) X d_L_law_521 (nI_add _ _) ?_
      refine zs_ld (v := x) S d_L_law_522 (by omega) hL hx ?_
      refine zr_aload_n X d_L_law_523 rfl ?_
      refine zr_iload_n X d_L_law_524 rfl ?_
      refine zr_iconst (v := nI 2) X d_L_law_525 (by decide) ?_
      refine zr_iadd (z := nI (i + 2)) X d_L_law_526 (nI_add _ _) ?_
      refine zs_ld (v := y) S d_L_law_527 (by omega) hL hy ?_
      refine zr_aload_n X d_L_law_528 rfl ?_
      refine zr_iload_n X d_L_law_529 rfl ?_
      refine zr_iconst (v := nI 3) X d_L_law_530 (by decide) ?_
      refine zr_iadd (z := nI (i + 3)) X d_L_law_531 (nI_add _ _) ?_
      refine zs_ld (v := z) S d_L_law_532 (by omega) hL hz ?_
      refine zr_if_eqf (tgt := 540) X d_L_law_533 rfl hz0 ?_
      refine zr_iconst (v := nI 1) X d_L_law_536 (by decide) ?_
      refine zr_goto (tgt := 541) X d_L_law_537 rfl ?_
      refine zr_callV X K_L_94 KI_L_94 KS_L_94 (c_B_mark_n1 (by omega) h0 hno) d_L_law_541 (by omega) h0 rfl rfl (by decide) (Nat.le_of_ble_eq_true rfl) ⟨by show k + 0 ≤ 600000; omega, by show s0 + 0 ≤ 7302250; omega⟩ (st := []) rfl (kRd ?_)
      show G k s0 544 [some (.ref bs), some (.ref (q 0)), some (.ref (q 10)), some (.int (nI i))] [.int (nI 0)] N q f
      refine zr_aload_n X d_L_law_544 rfl ?_
      refine zr_aload_n X d_L_law_545 rfl ?_
      refine zr_iload_n X d_L_law_546 rfl ?_
      refine zr_iconst (v := nI 1) X d_L_law_547 (by decide) ?_
      refine zr_iadd (z := nI (i + 1)) X d_L_law_548 (nI_add _ _) ?_
      refine zs_ld (v := x) S d_L_law_549 (by omega) hL hx ?_
      refine zr_aload_n X d_L_law_550 rfl ?_
      refine zr_iload_n X d_L_law_551 rfl ?_
      refine zr_iconst (v := nI 2) X d_L_law_552 (by decide) ?_
      refine zr_iadd (z := nI (i + 2)) X d_L_law_553 (nI_add _ _) ?_
      refine zs_ld (v := y) S d_L_law_554 (by omega) hL hy ?_
      refine zr_aload_n X d_L_law_555 rfl ?_
      refine zr_iload_n X d_L_law_556 rfl ?_
      refine zr_iconst (v := nI 3) X d_L_law_557 (by decide) ?_
      refine zr_iadd (z := nI (i + 3)) X d_L_law_558 (nI_add _ _) ?_
      refine zs_ld (v := z) S d_L_law_559 (by omega) hL hz ?_
      refine zr_if_eqf (tgt := 567) X d_L_law_560 rfl hz0 ?_
      refine zr_iconst (v := nI 1) X d_L_law_563 (by decide) ?_
      refine zr_goto (tgt := 568) X d_L_law_564 rfl ?_
      refine zr_callV X K_L_98 KI_L_98 KS_L_98 (c_O_mark_n1 (by omega) g10 hno) d_L_law_568 (by omega) g10 rfl rfl (by decide) (Nat.le_of_ble_eq_true rfl) ⟨by show k + 0 ≤ 600000; omega, by show s0 + 0 ≤ 7302250; omega⟩ (st := [.int (nI 0)]) rfl (kRd ?_)
      show G k s0 571 [some (.ref bs), some (.ref (q 0)), some (.ref (q 10)), some (.int (nI i))] [.int (nI 0), .int (nI 0)] N q f
      refine zr_icmp_eqt (tgt := 645) X d_L_law_571 rfl rfl ?_
      exact zr_widen X (by omega) (by omega) (back N q f I0)

set_option maxRecDepth 100000 in
set_option maxHeartbeats 4000000 in
theorem L_20 {G : zT} {l : Launch} {D : va_G} {cI cC cZ cV : ClassId} {nm : String} {bs L : Nat} {xs : Nat → Int32} (X : zOK G l room_1 code 4 R_L nm D (zty cI cC cZ cV)) (S : zLW G bs L xs) {N : Nat} {q : Nat → Nat} {f : zF} {k s0 i : Nat} (hL : L ≤ 2048) (hi : i + 3 < L) (hk : k + 2 ≤ 600000) (hs : s0 + 2007 ≤ 7302250) (I : zInv cI cC cZ cV N q f) (back : ∀ (N' : Nat) (q' : Nat → Nat) (f' : zF), zInv cI cC cZ cV N' q' f' → G (k + 2) (s0 + 2007) 645 [some (.ref bs), some (.ref (q' 0)), some (.ref (q' 10)), some (.int (nI i))] [] N' q' f') : G k s0 576 [some (.ref bs), some (.ref (q 0)), some (.ref (q 10)), some (.int (nI i))] [] N q f := by
  have I0 := I
  obtain ⟨n, ins, a, k1, par, com, tp, tc, tq, tz, tt, cn, lat, mp, mr, sc, pa, iset, ma, mr2, sc2, C, M0, P⟩ := I
  have C0 := C
  have M00 := M0
  have P0 := P
  obtain ⟨c1, Cu, c3, c4, c5, c6, c7, ⟨md, c8, c8'⟩, ⟨wo, c9⟩, V⟩ := C
  have Cu0 := Cu
  obtain ⟨h0, h1, ⟨tx1, h2, htx1, hag1⟩, h6⟩ := Cu
  obtain ⟨g10, g11, g19, hsc2, g20, g21, g22, co, pl, mn, fi, pool, tx2, way, g12, g13, g14, g15, g16, g17, g18, M, Lp, hpool, htx2, hag2⟩ := M0
  obtain ⟨p1, p2, ha, p4, p5, hp0, T, p8, p9, p10, p11, p12⟩ := P
  have hza := T.2.1 a ha
  have hzi := p8 a ha
  have hp := fun v h0 h => T.lt (v := v) h0 h
  generalize hx : xs (i + 1) = x
  rcases z_posn x (n := 5) (by omega) with ⟨m, hm, rfl⟩ | hno
  · skip
    obtain ⟨w, hw, e1, e2⟩ := p11 m (by omega)
    rcases e2 with ⟨e3, e4⟩ | ⟨e3, e4⟩
    · skip
      have hne : ¬ mp m = -1 := by rw [e4]; exact z_m1 (by omega)
      show G k s0 576 [some (.ref bs), some (.ref (q 0)), some (.ref (q 10)), some (.int (nI i))] [] N q f
      refine zr_aload_n X d_L_law_576 rfl ?_
      refine zr_aload_n X d_L_law_577 rfl ?_
      refine zr_iload_n X d_L_law_578 rfl ?_
      refine zr_iconst (v := nI 1) X d_L_law_579 (by decide) ?_
      refine zr_iadd (z := nI (i + 1)) X d_L_law_580 (nI_add _ _) ?_
      refine zs_ld (v := nI m) S d_L_law_581 (by omega) hL hx ?_
      refine zr_callV X K_L_99 KI_L_99 KS_L_99 (c_B_unmark_y (by omega) h0 c6 h6 (by omega) hne) d_L_law_582 (by omega) h0 rfl rfl (by decide) (Nat.le_of_ble_eq_true rfl) ⟨by show k + 0 ≤ 600000; omega, by show s0 + 0 ≤ 7302250; omega⟩ (st := []) rfl (fun v9 N9 q9 f9 hr9 => ?_)
      obtain ⟨rfl, eN, eq9, rfl⟩ := hr9
      rw [eN, eq9]
      show G k s0 585 [some (.ref bs), some (.ref (q 0)), some (.ref (q 10)), some (.int (nI i))] [.int (nI 1)] N q (va_up f 6 (.inl (cI, 6, .inl (upd mp m (-1)))))
      refine zr_aload_n X d_L_law_585 rfl ?_
      refine zr_aload_n X d_L_law_586 rfl ?_
      refine zr_iload_n X d_L_law_587 rfl ?_
      refine zr_iconst (v := nI 1) X d_L_law_588 (by decide) ?_
      refine zr_iadd (z := nI (i + 1)) X d_L_law_589 (nI_add _ _) ?_
      refine zs_ld (v := nI m) S d_L_law_590 (by omega) hL hx ?_
      refine zr_callV X K_L_103 KI_L_103 KS_L_103 (c_O_unmark_y (by omega) (up_ne (by decide) g10) (up_ne (by decide) g20) (by omega) e3) d_L_law_591 (by omega) (up_ne (by decide) g10) rfl rfl (by decide) (Nat.le_of_ble_eq_true rfl) ⟨by show k + 0 ≤ 600000; omega, by show s0 + 0 ≤ 7302250; omega⟩ (st := [.int (nI 1)]) rfl (fun v9 N9 q9 f9 hr9 => ?_)
      obtain ⟨rfl, eN, eq9, rfl⟩ := hr9
      rw [eN, eq9]
      show G k s0 594 [some (.ref bs), some (.ref (q 0)), some (.ref (q 10)), some (.int (nI i))] [.int (nI 1), .int (nI 1)] N q (va_up (va_up f 6 (.inl (cI, 6, .inl (upd mp m (-1))))) 20 (.inl (cZ, 6, .inl (upd iset m (nI 0)))))
      refine zr_icmp_eqt (tgt := 645) X d_L_law_594 rfl rfl ?_
      exact zr_widen X (by omega) (by omega) (back N q _ ⟨n, ins, a, k1, par, com, tp, tc, tq, tz, tt, cn, lat, upd mp m (-1), mr, sc, pa, upd iset m (nI 0), ma, mr2, sc2, (C0.mrk up_eq (up_ne (by decide) c7) (fun jj a b => up_ne a rfl)).keep (fun jj h => up_ne (by omega) rfl), (M00.keep (fun jj h1 h2 => up_ne (by omega) rfl)).mrk up_eq (up_ne (by decide) (up_ne (by decide) g21)) (up_ne (by decide) (up_ne (by decide) g22)) (fun jj h => up_ne (by omega) rfl), P0.mrk (fun t ht => by
        by_cases htm : t = m
        · rw [htm, pk_us, pk_us]
          exact ⟨w, hw, e1, Or.inr ⟨rfl, rfl⟩⟩
        · rw [pk_un htm, pk_un htm]
          exact p11 t ht) p12⟩)
    · skip
      show G k s0 576 [some (.ref bs), some (.ref (q 0)), some (.ref (q 10)), some (.int (nI i))] [] N q f
      refine zr_aload_n X d_L_law_576 rfl ?_
      refine zr_aload_n X d_L_law_577 rfl ?_
      refine zr_iload_n X d_L_law_578 rfl ?_
      refine zr_iconst (v := nI 1) X d_L_law_579 (by decide) ?_
      refine zr_iadd (z := nI (i + 1)) X d_L_law_580 (nI_add _ _) ?_
      refine zs_ld (v := nI m) S d_L_law_581 (by omega) hL hx ?_
      refine zr_callV X K_L_99 KI_L_99 KS_L_99 (c_B_unmark_0 (by omega) h0 c6 h6 (by omega) e4) d_L_law_582 (by omega) h0 rfl rfl (by decide) (Nat.le_of_ble_eq_true rfl) ⟨by show k + 0 ≤ 600000; omega, by show s0 + 0 ≤ 7302250; omega⟩ (st := []) rfl (kRd ?_)
      show G k s0 585 [some (.ref bs), some (.ref (q 0)), some (.ref (q 10)), some (.int (nI i))] [.int (nI 0)] N q f
      refine zr_aload_n X d_L_law_585 rfl ?_
      refine zr_aload_n X d_L_law_586 rfl ?_
      refine zr_iload_n X d_L_law_587 rfl ?_
      refine zr_iconst (v := nI 1) X d_L_law_588 (by decide) ?_
      refine zr_iadd (z := nI (i + 1)) X d_L_law_589 (nI_add _ _) ?_
      refine zs_ld (v := nI m) S d_L_law_590 (by omega) hL hx ?_
      refine zr_callV X K_L_103 KI_L_103 KS_L_103 (c_O_unmark_0 (by omega) g10 g20 (by omega) e3) d_L_law_591 (by omega) g10 rfl rfl (by decide) (Nat.le_of_ble_eq_true rfl) ⟨by show k + 0 ≤ 600000; omega, by show s0 + 0 ≤ 7302250; omega⟩ (st := [.int (nI 0)]) rfl (kRd ?_)
      show G k s0 594 [some (.ref bs), some (.ref (q 0)), some (.ref (q 10)), some (.int (nI i))] [.int (nI 0), .int (nI 0)] N q f
      refine zr_icmp_eqt (tgt := 645) X d_L_law_594 rfl rfl ?_
      exact zr_widen X (by omega) (by omega) (back N q f I0)
  · skip
    show G k s0 576 [some (.ref bs), some (.ref (q 0)), some (.ref (q 10)), some (.int (nI i))] [] N q f
    refine zr_aload_n X d_L_law_576 rfl ?_
    refine zr_aload_n X d_L_law_577 rfl ?_
    refine zr_iload_n X d_L_law_578 rfl ?_
    refine zr_iconst (v := nI 1) X d_L_law_579 (by decide) ?_
    refine zr_iadd (z := nI (i + 1)) X d_L_law_580 (nI_add _ _) ?_
    refine zs_ld (v := x) S d_L_law_581 (by omega) hL hx ?_
    refine zr_callV X K_L_99 KI_L_99 KS_L_99 (c_B_unmark_n (by omega) h0 hno) d_L_law_582 (by omega) h0 rfl rfl (by decide) (Nat.le_of_ble_eq_true rfl) ⟨by show k + 0 ≤ 600000; omega, by show s0 + 0 ≤ 7302250; omega⟩ (st := []) rfl (kRd ?_)
    show G k s0 585 [some (.ref bs), some (.ref (q 0)), some (.ref (q 10)), some (.int (nI i))] [.int (nI 0)] N q f
    refine zr_aload_n X d_L_law_585 rfl ?_
    refine zr_aload_n X d_L_law_586 rfl ?_
    refine zr_iload_n X d_L_law_587 rfl ?_
    refine zr_iconst (v := nI 1) X d_L_law_588 (by decide) ?_
    refine zr_iadd (z := nI (i + 1)) X d_L_law_589 (nI_add _ _) ?_
    refine zs_ld (v := x) S d_L_law_590 (by omega) hL hx ?_
    refine zr_callV X K_L_103 KI_L_103 KS_L_103 (c_O_unmark_n (by omega) g10 hno) d_L_law_591 (by omega) g10 rfl rfl (by decide) (Nat.le_of_ble_eq_true rfl) ⟨by show k + 0 ≤ 600000; omega, by show s0 + 0 ≤ 7302250; omega⟩ (st := [.int (nI 0)]) rfl (kRd ?_)
    show G k s0 594 [some (.ref bs), some (.ref (q 0)), some (.ref (q 10)), some (.int (nI i))] [.int (nI 0), .int (nI 0)] N q f
    refine zr_icmp_eqt (tgt := 645) X d_L_law_594 rfl rfl ?_
    exact zr_widen X (by omega) (by omega) (back N q f I0)

set_option maxRecDepth 100000 in
set_option maxHeartbeats 4000000 in
theorem L_21 {G : zT} {l : Launch} {D : va_G} {cI cC cZ cV : ClassId} {nm : String} {bs L : Nat} {xs : Nat → Int32} (X : zOK G l room_1 code 4 R_L nm D (zty cI cC cZ cV)) (S : zLW G bs L xs) {N : Nat} {q : Nat → Nat} {f : zF} {k s0 i : Nat} (hL : L ≤ 2048) (hi : i + 3 < L) (hk : k + 2 ≤ 600000) (hs : s0 + 2007 ≤ 7302250) (I : zInv cI cC cZ cV N q f) (back : ∀ (N' : Nat) (q' : Nat → Nat) (f' : zF), zInv cI cC cZ cV N' q' f' → G (k + 2) (s0 + 2007) 645 [some (.ref bs), some (.ref (q' 0)), some (.ref (q' 10)), some (.int (nI i))] [] N' q' f') : G k s0 599 [some (.ref bs), some (.ref (q 0)), some (.ref (q 10)), some (.int (nI i))] [] N q f := by
  have I0 := I
  obtain ⟨n, ins, a, k1, par, com, tp, tc, tq, tz, tt, cn, lat, mp, mr, sc, pa, iset, ma, mr2, sc2, C, M0, P⟩ := I
  have C0 := C
  have M00 := M0
  have P0 := P
  obtain ⟨c1, Cu, c3, c4, c5, c6, c7, ⟨md, c8, c8'⟩, ⟨wo, c9⟩, V⟩ := C
  have Cu0 := Cu
  obtain ⟨h0, h1, ⟨tx1, h2, htx1, hag1⟩, h6⟩ := Cu
  obtain ⟨g10, g11, g19, hsc2, g20, g21, g22, co, pl, mn, fi, pool, tx2, way, g12, g13, g14, g15, g16, g17, g18, M, Lp, hpool, htx2, hag2⟩ := M0
  obtain ⟨p1, p2, ha, p4, p5, hp0, T, p8, p9, p10, p11, p12⟩ := P
  have hza := T.2.1 a ha
  have hzi := p8 a ha
  have hp := fun v h0 h => T.lt (v := v) h0 h
  generalize hx : xs (i + 1) = x
  rcases z_posn x (n := 5) (by omega) with ⟨m, hm, rfl⟩ | hno
  · skip
    obtain ⟨w, hw, e1, e2⟩ := p11 m (by omega)
    rcases e2 with ⟨e3, e4⟩ | ⟨e3, e4⟩
    · skip
      have hne : ¬ mp m = -1 := by rw [e4]; exact z_m1 (by omega)
      show G k s0 599 [some (.ref bs), some (.ref (q 0)), some (.ref (q 10)), some (.int (nI i))] [] N q f
      refine zr_aload_n X d_L_law_599 rfl ?_
      refine zr_aload_n X d_L_law_600 rfl ?_
      refine zr_iload_n X d_L_law_601 rfl ?_
      refine zr_iconst (v := nI 1) X d_L_law_602 (by decide) ?_
      refine zr_iadd (z := nI (i + 1)) X d_L_law_603 (nI_add _ _) ?_
      refine zs_ld (v := nI m) S d_L_law_604 (by omega) hL hx ?_
      refine zr_callV X K_L_104 KI_L_104 KS_L_104 (c_B_where_y (by omega) h0 c6 h6 (by omega) hne) d_L_law_605 (by omega) h0 rfl rfl (by decide) (Nat.le_of_ble_eq_true rfl) ⟨by show k + 0 ≤ 600000; omega, by show s0 + 0 ≤ 7302250; omega⟩ (st := []) rfl (kRd ?_)
      show G k s0 608 [some (.ref bs), some (.ref (q 0)), some (.ref (q 10)), some (.int (nI i))] [.int (mp m)] N q f
      refine zr_aload_n X d_L_law_608 rfl ?_
      refine zr_aload_n X d_L_law_609 rfl ?_
      refine zr_iload_n X d_L_law_610 rfl ?_
      refine zr_iconst (v := nI 1) X d_L_law_611 (by decide) ?_
      refine zr_iadd (z := nI (i + 1)) X d_L_law_612 (nI_add _ _) ?_
      refine zs_ld (v := nI m) S d_L_law_613 (by omega) hL hx ?_
      refine zr_callV X K_L_107 KI_L_107 KS_L_107 (c_O_where_y (by omega) g10 g20 g21 (by omega) e3) d_L_law_614 (by omega) g10 rfl rfl (by decide) (Nat.le_of_ble_eq_true rfl) ⟨by show k + 0 ≤ 600000; omega, by show s0 + 0 ≤ 7302250; omega⟩ (st := [.int (mp m)]) rfl (kRd ?_)
      show G k s0 617 [some (.ref bs), some (.ref (q 0)), some (.ref (q 10)), some (.int (nI i))] [.int (ma m), .int (mp m)] N q f
      refine zr_icmp_eqt (tgt := 645) X d_L_law_617 rfl (by rw [e1, e4]) ?_
      exact zr_widen X (by omega) (by omega) (back N q f I0)
    · skip
      show G k s0 599 [some (.ref bs), some (.ref (q 0)), some (.ref (q 10)), some (.int (nI i))] [] N q f
      refine zr_aload_n X d_L_law_599 rfl ?_
      refine zr_aload_n X d_L_law_600 rfl ?_
      refine zr_iload_n X d_L_law_601 rfl ?_
      refine zr_iconst (v := nI 1) X d_L_law_602 (by decide) ?_
      refine zr_iadd (z := nI (i + 1)) X d_L_law_603 (nI_add _ _) ?_
      refine zs_ld (v := nI m) S d_L_law_604 (by omega) hL hx ?_
      refine zr_callV X K_L_104 KI_L_104 KS_L_104 (c_B_where_0 (by omega) h0 c6 h6 (by omega) e4) d_L_law_605 (by omega) h0 rfl rfl (by decide) (Nat.le_of_ble_eq_true rfl) ⟨by show k + 0 ≤ 600000; omega, by show s0 + 0 ≤ 7302250; omega⟩ (st := []) rfl (kRd ?_)
      show G k s0 608 [some (.ref bs), some (.ref (q 0)), some (.ref (q 10)), some (.int (nI i))] [.int (-1)] N q f
      refine zr_aload_n X d_L_law_608 rfl ?_
      refine zr_aload_n X d_L_law_609 rfl ?_
      refine zr_iload_n X d_L_law_610 rfl ?_
      refine zr_iconst (v := nI 1) X d_L_law_611 (by decide) ?_
      refine zr_iadd (z := nI (i + 1)) X d_L_law_612 (nI_add _ _) ?_
      refine zs_ld (v := nI m) S d_L_law_613 (by omega) hL hx ?_
      refine zr_callV X K_L_107 KI_L_107 KS_L_107 (c_O_where_0 (by omega) g10 g20 (by omega) e3) d_L_law_614 (by omega) g10 rfl rfl (by decide) (Nat.le_of_ble_eq_true rfl) ⟨by show k + 0 ≤ 600000; omega, by show s0 + 0 ≤ 7302250; omega⟩ (st := [.int (-1)]) rfl (kRd ?_)
      show G k s0 617 [some (.ref bs), some (.ref (q 0)), some (.ref (q 10)), some (.int (nI i))] [.int (-1), .int (-1)] N q f
      refine zr_icmp_eqt (tgt := 645) X d_L_law_617 rfl rfl ?_
      exact zr_widen X (by omega) (by omega) (back N q f I0)
  · skip
    show G k s0 599 [some (.ref bs), some (.ref (q 0)), some (.ref (q 10)), some (.int (nI i))] [] N q f
    refine zr_aload_n X d_L_law_599 rfl ?_
    refine zr_aload_n X d_L_law_600 rfl ?_
    refine zr_iload_n X d_L_law_601 rfl ?_
    refine zr_iconst (v := nI 1) X d_L_law_602 (by decide) ?_
    refine zr_iadd (z := nI (i + 1)) X d_L_law_603 (nI_add _ _) ?_
    refine zs_ld (v := x) S d_L_law_604 (by omega) hL hx ?_
    refine zr_callV X K_L_104 KI_L_104 KS_L_104 (c_B_where_n (by omega) h0 hno) d_L_law_605 (by omega) h0 rfl rfl (by decide) (Nat.le_of_ble_eq_true rfl) ⟨by show k + 0 ≤ 600000; omega, by show s0 + 0 ≤ 7302250; omega⟩ (st := []) rfl (kRd ?_)
    show G k s0 608 [some (.ref bs), some (.ref (q 0)), some (.ref (q 10)), some (.int (nI i))] [.int (-1)] N q f
    refine zr_aload_n X d_L_law_608 rfl ?_
    refine zr_aload_n X d_L_law_609 rfl ?_
    refine zr_iload_n X d_L_law_610 rfl ?_
    refine zr_iconst (v := nI 1) X d_L_law_611 (by decide) ?_
    refine zr_iadd (z := nI (i + 1)) X d_L_law_612 (nI_add _ _) ?_
    refine zs_ld (v := x) S d_L_law_613 (by omega) hL hx ?_
    refine zr_callV X K_L_107 KI_L_107 KS_L_107 (c_O_where_n (by omega) g10 hno) d_L_law_614 (by omega) g10 rfl rfl (by decide) (Nat.le_of_ble_eq_true rfl) ⟨by show k + 0 ≤ 600000; omega, by show s0 + 0 ≤ 7302250; omega⟩ (st := [.int (-1)]) rfl (kRd ?_)
    show G k s0 617 [some (.ref bs), some (.ref (q 0)), some (.ref (q 10)), some (.int (nI i))] [.int (-1), .int (-1)] N q f
    refine zr_icmp_eqt (tgt := 645) X d_L_law_617 rfl rfl ?_
    exact zr_widen X (by omega) (by omega) (back N q f I0)

set_option maxRecDepth 100000 in
set_option maxHeartbeats 4000000 in
theorem L_22 {G : zT} {l : Launch} {D : va_G} {cI cC cZ cV : ClassId} {nm : String} {bs L : Nat} {xs : Nat → Int32} (X : zOK G l room_1 code 4 R_L nm D (zty cI cC cZ cV)) (S : zLW G bs L xs) {N : Nat} {q : Nat → Nat} {f : zF} {k s0 i : Nat} (hL : L ≤ 2048) (hi : i + 3 < L) (hk : k + 2 ≤ 600000) (hs : s0 + 2007 ≤ 7302250) (I : zInv cI cC cZ cV N q f) (back : ∀ (N' : Nat) (q' : Nat → Nat) (f' : zF), zInv cI cC cZ cV N' q' f' → G (k + 2) (s0 + 2007) 645 [some (.ref bs), some (.ref (q' 0)), some (.ref (q' 10)), some (.int (nI i))] [] N' q' f') : G k s0 622 [some (.ref bs), some (.ref (q 0)), some (.ref (q 10)), some (.int (nI i))] [] N q f := by
  have I0 := I
  obtain ⟨n, ins, a, k1, par, com, tp, tc, tq, tz, tt, cn, lat, mp, mr, sc, pa, iset, ma, mr2, sc2, C, M0, P⟩ := I
  have C0 := C
  have M00 := M0
  have P0 := P
  obtain ⟨c1, Cu, c3, c4, c5, c6, c7, ⟨md, c8, c8'⟩, ⟨wo, c9⟩, V⟩ := C
  have Cu0 := Cu
  obtain ⟨h0, h1, ⟨tx1, h2, htx1, hag1⟩, h6⟩ := Cu
  obtain ⟨g10, g11, g19, hsc2, g20, g21, g22, co, pl, mn, fi, pool, tx2, way, g12, g13, g14, g15, g16, g17, g18, M, Lp, hpool, htx2, hag2⟩ := M0
  obtain ⟨p1, p2, ha, p4, p5, hp0, T, p8, p9, p10, p11, p12⟩ := P
  have hza := T.2.1 a ha
  have hzi := p8 a ha
  have hp := fun v h0 h => T.lt (v := v) h0 h
  generalize hx : xs (i + 1) = x
  rcases z_posn x (n := tz a) (by omega) with ⟨p, hpp, rfl⟩ | hno
  · skip
    show G k s0 622 [some (.ref bs), some (.ref (q 0)), some (.ref (q 10)), some (.int (nI i))] [] N q f
    refine zr_aload_n X d_L_law_622 rfl ?_
    refine zr_aload_n X d_L_law_623 rfl ?_
    refine zr_iload_n X d_L_law_624 rfl ?_
    refine zr_iconst (v := nI 1) X d_L_law_625 (by decide) ?_
    refine zr_iadd (z := nI (i + 1)) X d_L_law_626 (nI_add _ _) ?_
    refine zs_ld (v := nI p) S d_L_law_627 (by omega) hL hx ?_
    refine zr_callV X K_L_108 KI_L_108 KS_L_108 (c_B_nextMark_y (by omega) h0 h1 c6 h6 hpp hza rfl) d_L_law_628 (by omega) h0 rfl rfl (by decide) (Nat.le_of_ble_eq_true rfl) ⟨by show k + 0 ≤ 600000; omega, by show s0 + 0 ≤ 7302250; omega⟩ (st := []) rfl (kRd ?_)
    show G k s0 631 [some (.ref bs), some (.ref (q 0)), some (.ref (q 10)), some (.int (nI i))] [.int (zfi (zff mp (nI p) 6))] N q f
    refine zr_aload_n X d_L_law_631 rfl ?_
    refine zr_aload_n X d_L_law_632 rfl ?_
    refine zr_iload_n X d_L_law_633 rfl ?_
    refine zr_iconst (v := nI 1) X d_L_law_634 (by decide) ?_
    refine zr_iadd (z := nI (i + 1)) X d_L_law_635 (nI_add _ _) ?_
    refine zs_ld (v := nI p) S d_L_law_636 (by omega) hL hx ?_
    refine zr_callV X K_L_111 KI_L_111 KS_L_111 (c_O_nextMark_y (by omega) g10 g20 g21 hpp hza rfl) d_L_law_637 (by omega) g10 rfl rfl (by decide) (Nat.le_of_ble_eq_true rfl) ⟨by show k + 0 ≤ 600000; omega, by show s0 + 0 ≤ 7302250; omega⟩ (st := [.int (zfi (zff mp (nI p) 6))]) rfl (kRd ?_)
    show G k s0 640 [some (.ref bs), some (.ref (q 0)), some (.ref (q 10)), some (.int (nI i))] [.int (zfi (znm iset ma (nI p) 6)), .int (zfi (zff mp (nI p) 6))] N q f
    refine zr_icmp_eqt (tgt := 645) X d_L_law_640 rfl (by rw [z_next p11 hza (by omega)]) ?_
    exact zr_widen X (by omega) (by omega) (back N q f I0)
  · skip
    show G k s0 622 [some (.ref bs), some (.ref (q 0)), some (.ref (q 10)), some (.int (nI i))] [] N q f
    refine zr_aload_n X d_L_law_622 rfl ?_
    refine zr_aload_n X d_L_law_623 rfl ?_
    refine zr_iload_n X d_L_law_624 rfl ?_
    refine zr_iconst (v := nI 1) X d_L_law_625 (by decide) ?_
    refine zr_iadd (z := nI (i + 1)) X d_L_law_626 (nI_add _ _) ?_
    refine zs_ld (v := x) S d_L_law_627 (by omega) hL hx ?_
    refine zr_callV X K_L_108 KI_L_108 KS_L_108 (c_B_nextMark_n (by omega) h0 h1 hno) d_L_law_628 (by omega) h0 rfl rfl (by decide) (Nat.le_of_ble_eq_true rfl) ⟨by show k + 0 ≤ 600000; omega, by show s0 + 0 ≤ 7302250; omega⟩ (st := []) rfl (kRd ?_)
    show G k s0 631 [some (.ref bs), some (.ref (q 0)), some (.ref (q 10)), some (.int (nI i))] [.int (-1)] N q f
    refine zr_aload_n X d_L_law_631 rfl ?_
    refine zr_aload_n X d_L_law_632 rfl ?_
    refine zr_iload_n X d_L_law_633 rfl ?_
    refine zr_iconst (v := nI 1) X d_L_law_634 (by decide) ?_
    refine zr_iadd (z := nI (i + 1)) X d_L_law_635 (nI_add _ _) ?_
    refine zs_ld (v := x) S d_L_law_636 (by omega) hL hx ?_
    refine zr_callV X K_L_111 KI_L_111 KS_L_111 (c_O_nextMark_n (by omega) g10 hno) d_L_law_637 (by omega) g10 rfl rfl (by decide) (Nat.le_of_ble_eq_true rfl) ⟨by show k + 0 ≤ 600000; omega, by show s0 + 0 ≤ 7302250; omega⟩ (st := [.int (-1)]) rfl (kRd ?_)
    show G k s0 640 [some (.ref bs), some (.ref (q 0)), some (.ref (q 10)), some (.int (nI i))] [.int (-1), .int (-1)] N q f
    refine zr_icmp_eqt (tgt := 645) X d_L_law_640 rfl rfl ?_
    exact zr_widen X (by omega) (by omega) (back N q f I0)
