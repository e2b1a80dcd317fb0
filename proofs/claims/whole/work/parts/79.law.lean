set_option maxRecDepth 100000 in
set_option maxHeartbeats 4000000 in
theorem L_4 {G : zT} {l : Launch} {D : va_G} {cI cC cZ cV : ClassId} {nm : String} {bs L : Nat} {xs : Nat → Int32} (X : zOK G l room_1 code 4 R_L nm D (zty cI cC cZ cV)) (S : zLW G bs L xs) {N : Nat} {q : Nat → Nat} {f : zF} {k s0 i : Nat} (hL : L ≤ 2048) (hi : i + 3 < L) (hk : k + 2 ≤ 600000) (hs : s0 + 2007 ≤ 7302250) (I : zInv cI cC cZ cV N q f) (back : ∀ (N' : Nat) (q' : Nat → Nat) (f' : zF), zInv cI cC cZ cV N' q' f' → G (k + 2) (s0 + 2007) 645 [some (.ref bs), some (.ref (q' 0)), some (.ref (q' 10)), some (.int (nI i))] [] N' q' f') : G k s0 222 [some (.ref bs), some (.ref (q 0)), some (.ref (q 10)), some (.int (nI i))] [] N q f := by
  have I0 := I
  obtain ⟨n, ins, a, k1, par, com, tp, tc, tq, tz, tt, cn, lat, mp, mr, sc, pa, iset, ma, mr2, sc2, C, M0, P⟩ := I
  have C0 := C
  have M00 := M0
  have P0 := P
  obtain ⟨c1, Cu, c3, c4, c5, c6, c7, ⟨md, c8, c8'⟩, ⟨wo, c9⟩, V⟩ := C
  have Cu0 := Cu
  obtain ⟨h0, h1, ⟨tx1, h2, htx1, hag1⟩, h6⟩ := Cu
  obtain ⟨g10, g11, g19, hsc2, g20, g21, g22, co, pl, mn, fi, pool, tx2, way, g12, g13, g14, g15, g16, g17, g18, M, Lp, hpool, htx2, hag2⟩ := M0
  obtain ⟨p1, p2, ha, p4, p5, hp0, T, p8, p9, p10, p11, p12⟩ := P
  have hza := T.2.1 a ha
  have hzi := p8 a ha
  have hp := fun v h0 h => T.lt (v := v) h0 h
  generalize hx : xs (i + 1) = x
  rcases z_posn x (n := tz a) (by omega) with ⟨p, hpp, rfl⟩ | hno
  · skip
    by_cases hk0 : k1 = 0
    · skip
      show G k s0 222 [some (.ref bs), some (.ref (q 0)), some (.ref (q 10)), some (.int (nI i))] [] N q f
      refine zr_aload_n X d_L_law_222 rfl ?_
      refine zr_aload_n X d_L_law_223 rfl ?_
      refine zr_iload_n X d_L_law_224 rfl ?_
      refine zr_iconst (v := nI 1) X d_L_law_225 (by decide) ?_
      refine zr_iadd (z := nI (i + 1)) X d_L_law_226 (nI_add _ _) ?_
      refine zs_ld (v := nI p) S d_L_law_227 (by omega) hL hx ?_
      refine zr_callV X K_L_32 KI_L_32 KS_L_32 (c_B_insert_e (by omega) h0 h1 c3 hpp hza hk0) d_L_law_228 (by omega) h0 rfl rfl (by decide) (Nat.le_of_ble_eq_true rfl) ⟨by show k + 2 ≤ 600000; omega, by show s0 + 2007 ≤ 7302250; omega⟩ (st := []) rfl (kRd ?_)
      show G (k + 2) (s0 + 2007) 231 [some (.ref bs), some (.ref (q 0)), some (.ref (q 10)), some (.int (nI i))] [.int (-2)] N q f
      refine zr_aload_n X d_L_law_231 rfl ?_
      refine zr_aload_n X d_L_law_232 rfl ?_
      refine zr_iload_n X d_L_law_233 rfl ?_
      refine zr_iconst (v := nI 1) X d_L_law_234 (by decide) ?_
      refine zr_iadd (z := nI (i + 1)) X d_L_law_235 (nI_add _ _) ?_
      refine zs_ld (v := nI p) S d_L_law_236 (by omega) hL hx ?_
      refine zr_callV X K_L_36 KI_L_36 KS_L_36 (c_O_insert_e (by omega) g10 hpp hza hk0) d_L_law_237 (by omega) g10 rfl rfl (by decide) (Nat.le_of_ble_eq_true rfl) ⟨by show k + 2 + 0 ≤ 600000; omega, by show s0 + 2007 + 0 ≤ 7302250; omega⟩ (st := [.int (-2)]) rfl (kRd ?_)
      show G (k + 2) (s0 + 2007) 240 [some (.ref bs), some (.ref (q 0)), some (.ref (q 10)), some (.int (nI i))] [.int (-2), .int (-2)] N q f
      refine zr_icmp_eqt (tgt := 645) X d_L_law_240 rfl rfl ?_
      exact zr_widen X (Nat.le_refl _) (Nat.le_refl _) (back N q f I0)
    · skip
      by_cases hn2 : n = 122
      · skip
        show G k s0 222 [some (.ref bs), some (.ref (q 0)), some (.ref (q 10)), some (.int (nI i))] [] N q f
        refine zr_aload_n X d_L_law_222 rfl ?_
        refine zr_aload_n X d_L_law_223 rfl ?_
        refine zr_iload_n X d_L_law_224 rfl ?_
        refine zr_iconst (v := nI 1) X d_L_law_225 (by decide) ?_
        refine zr_iadd (z := nI (i + 1)) X d_L_law_226 (nI_add _ _) ?_
        refine zs_ld (v := nI p) S d_L_law_227 (by omega) hL hx ?_
        refine zr_callV X K_L_32 KI_L_32 KS_L_32 (c_B_insert_f1 (by omega) h0 h1 c3 hpp hza (by omega) p5 hn2) d_L_law_228 (by omega) h0 rfl rfl (by decide) (Nat.le_of_ble_eq_true rfl) ⟨by show k + 2 ≤ 600000; omega, by show s0 + 2007 ≤ 7302250; omega⟩ (st := []) rfl (kRd ?_)
        show G (k + 2) (s0 + 2007) 231 [some (.ref bs), some (.ref (q 0)), some (.ref (q 10)), some (.int (nI i))] [.int (-3)] N q f
        refine zr_aload_n X d_L_law_231 rfl ?_
        refine zr_aload_n X d_L_law_232 rfl ?_
        refine zr_iload_n X d_L_law_233 rfl ?_
        refine zr_iconst (v := nI 1) X d_L_law_234 (by decide) ?_
        refine zr_iadd (z := nI (i + 1)) X d_L_law_235 (nI_add _ _) ?_
        refine zs_ld (v := nI p) S d_L_law_236 (by omega) hL hx ?_
        refine zr_callV X K_L_36 KI_L_36 KS_L_36 (c_O_insert_f1 (by omega) g10 hpp hza (by omega) p5 hn2) d_L_law_237 (by omega) g10 rfl rfl (by decide) (Nat.le_of_ble_eq_true rfl) ⟨by show k + 2 + 0 ≤ 600000; omega, by show s0 + 2007 + 0 ≤ 7302250; omega⟩ (st := [.int (-3)]) rfl (kRd ?_)
        show G (k + 2) (s0 + 2007) 240 [some (.ref bs), some (.ref (q 0)), some (.ref (q 10)), some (.int (nI i))] [.int (-3), .int (-3)] N q f
        refine zr_icmp_eqt (tgt := 645) X d_L_law_240 rfl rfl ?_
        exact zr_widen X (Nat.le_refl _) (Nat.le_refl _) (back N q f I0)
      · skip
        by_cases hik : ins + k1 ≤ 2000
        · skip
          have hok : zoK true p k1 (tz a) := ⟨hpp, by omega⟩
          show G k s0 222 [some (.ref bs), some (.ref (q 0)), some (.ref (q 10)), some (.int (nI i))] [] N q f
          refine zr_aload_n X d_L_law_222 rfl ?_
          refine zr_aload_n X d_L_law_223 rfl ?_
          refine zr_iload_n X d_L_law_224 rfl ?_
          refine zr_iconst (v := nI 1) X d_L_law_225 (by decide) ?_
          refine zr_iadd (z := nI (i + 1)) X d_L_law_226 (nI_add _ _) ?_
          refine zs_ld (v := nI p) S d_L_law_227 (by omega) hL hx ?_
          refine zr_callV X K_L_32 KI_L_32 KS_L_32 (c_B_insert_y (by omega) h0 h1 h2 c3 c4 c6 h6 c7 c8 (by omega) (by omega) (by omega) (V a ha).1 hpp hza (by omega) p5 (by omega) hik hok htx1 c5) d_L_law_228 (by omega) h0 rfl rfl (by decide) (Nat.le_of_ble_eq_true rfl) ⟨by show k + 2 ≤ 600000; omega, by show s0 + 2007 ≤ 7302250; omega⟩ (st := []) rfl (fun v9 N9 q9 f9 hr9 => ?_)
          obtain ⟨rfl, hNw⟩ := hr9
          have hfr := hNw.2.2.2.2.2.2.2.2.2.2
          have hN9 : N9 = N + 2 := hNw.1
          obtain ⟨hq, C1⟩ := C0.new P0 hok (zCh.cpy c5 zCh.z) htx1 hag1 c8' (by omega) hNw
          have hm := fun jj (h : 10 ≤ jj ∧ jj < 23) => hfr jj (by omega) (by omega) (by omega) (by omega) (by omega)
          have M1 := (M00.adr (q' := q9) (fun j hj => hq j (by omega))).keep (f' := f9) (fun jj h1 h2 => hm jj ⟨h1, h2⟩)
          rw [← hq 0 (by omega), ← hq 10 (by omega)]
          show G (k + 2) (s0 + 2007) 231 [some (.ref bs), some (.ref (q9 0)), some (.ref (q9 10)), some (.int (nI i))] [.int (nI n)] N9 q9 f9
          refine zr_aload_n X d_L_law_231 rfl ?_
          refine zr_aload_n X d_L_law_232 rfl ?_
          refine zr_iload_n X d_L_law_233 rfl ?_
          refine zr_iconst (v := nI 1) X d_L_law_234 (by decide) ?_
          refine zr_iadd (z := nI (i + 1)) X d_L_law_235 (nI_add _ _) ?_
          refine zs_ld (v := nI p) S d_L_law_236 (by omega) hL hx ?_
          refine zr_callV X K_L_36 KI_L_36 KS_L_36 (c_O_insert_y (by omega) M1.1 ((hm 11 ⟨by decide, by decide⟩).trans g11) ((hm 12 ⟨by decide, by decide⟩).trans g12) ((hm 13 ⟨by decide, by decide⟩).trans g13) ((hm 14 ⟨by decide, by decide⟩).trans g14) ((hm 15 ⟨by decide, by decide⟩).trans g15) ((hm 16 ⟨by decide, by decide⟩).trans g16) ((hm 17 ⟨by decide, by decide⟩).trans g17) ((hm 18 ⟨by decide, by decide⟩).trans g18) ((hm 19 ⟨by decide, by decide⟩).trans g19) ((hm 21 ⟨by decide, by decide⟩).trans g21) ((hm 22 ⟨by decide, by decide⟩).trans g22) htx2 hpool (T.new (gp := va_cpy sc (fun _ => 0) 0 0 k1) (by omega) ha hok (fun h => by cases h)) (M.ext (n' := n) (fun v hv => ⟨up_ne' (by omega), up_ne' (by omega), up_ne' (by omega), up_ne' (by omega), up_ne' (by omega)⟩)) (by omega) up_eq up_eq up_eq up_eq hsc2 (Lp.ext (fun v hv => ⟨up_ne' (by omega), up_ne' (by omega), up_ne' (by omega)⟩)) (fun j hj => by rw [up_eq, pk_cpy_in (by omega) (by omega), show 0 + (j - 0) = j by omega]; exact p10 j hj) hpp hza (by omega) p5 hik) d_L_law_237 (by omega) M1.1 rfl rfl (by decide) (Nat.le_of_ble_eq_true rfl) ⟨by show k + 2 + 0 ≤ 600000; omega, by show s0 + 2007 + 0 ≤ 7302250; omega⟩ (st := [.int (nI n)]) rfl (fun v8 N8 q8 f8 hr8 => ?_)
          obtain ⟨rfl, eN8, eq8, Ed⟩ := hr8
          rw [eN8, eq8]
          show G (k + 2) (s0 + 2007) 240 [some (.ref bs), some (.ref (q9 0)), some (.ref (q9 10)), some (.int (nI i))] [.int (nI n), .int (nI n)] N9 q9 f8
          refine zr_icmp_eqt (tgt := 645) X d_L_law_240 rfl rfl ?_
          exact back N9 q9 f8 ⟨n + 1, (ins + k1), n, k1, va_up par n a, va_up com n true, va_up tp n p, va_up tc n k1, va_up tq n (va_cpy sc (fun _ => 0) 0 0 k1), va_up tz n (zoS true (tz a) k1), va_up tt n (zoT true (tt a) (va_cpy sc (fun _ => 0) 0 0 k1) p k1 (tz a)), va_up (va_up cn a (cn a + 1)) n 0, va_up (va_up lat a (.ref (q9 (24 + 2 * n)))) n .null, zoM true p k1 mp mr, mr, sc, upd pa n (nI a), iset, zoM true p k1 ma mr2, mr2, sc2, C1.keep (fun jj h => (Ed.2.2.2.2.2.2 jj (by omega) (by omega) (by omega) (by omega) (by omega) (by omega) (by omega) (by omega)).trans (up_ne (by omega) (up_ne (by omega) rfl))), zIM.new (tx := tx2) P0 (up_ne (by decide) up_eq) up_eq (up_ne (by decide) (up_ne (by decide) ((hm 19 ⟨by decide, by decide⟩).trans g19))) hsc2 (up_ne (by decide) (up_ne (by decide) ((hm 20 ⟨by decide, by decide⟩).trans g20))) (up_ne (by decide) (up_ne (by decide) ((hm 22 ⟨by decide, by decide⟩).trans g22))) (zCh.cpy hsc2 hpool) (M.pool Lp hik) (Lp.ins (p := p) p10) hik Ed, P0.new (fun v h0 h => (M v h0 h).1) hok (fun h => by cases h) (by omega) hik (by omega) (by show tz a + k1 ≤ ins + k1; omega) (fun j hj => hq j (by omega))⟩
        · skip
          show G k s0 222 [some (.ref bs), some (.ref (q 0)), some (.ref (q 10)), some (.int (nI i))] [] N q f
          refine zr_aload_n X d_L_law_222 rfl ?_
          refine zr_aload_n X d_L_law_223 rfl ?_
          refine zr_iload_n X d_L_law_224 rfl ?_
          refine zr_iconst (v := nI 1) X d_L_law_225 (by decide) ?_
          refine zr_iadd (z := nI (i + 1)) X d_L_law_226 (nI_add _ _) ?_
          refine zs_ld (v := nI p) S d_L_law_227 (by omega) hL hx ?_
          refine zr_callV X K_L_32 KI_L_32 KS_L_32 (c_B_insert_f2 (by omega) h0 h1 c3 hpp hza (by omega) p5 (by omega) p4 (by omega)) d_L_law_228 (by omega) h0 rfl rfl (by decide) (Nat.le_of_ble_eq_true rfl) ⟨by show k + 2 ≤ 600000; omega, by show s0 + 2007 ≤ 7302250; omega⟩ (st := []) rfl (kRd ?_)
          show G (k + 2) (s0 + 2007) 231 [some (.ref bs), some (.ref (q 0)), some (.ref (q 10)), some (.int (nI i))] [.int (-3)] N q f
          refine zr_aload_n X d_L_law_231 rfl ?_
          refine zr_aload_n X d_L_law_232 rfl ?_
          refine zr_iload_n X d_L_law_233 rfl ?_
          refine zr_iconst (v := nI 1) X d_L_law_234 (by decide) ?_
          refine zr_iadd (z := nI (i + 1)) X d_L_law_235 (nI_add _ _) ?_
          refine zs_ld (v := nI p) S d_L_law_236 (by omega) hL hx ?_
          refine zr_callV X K_L_36 KI_L_36 KS_L_36 (c_O_insert_f2 (by omega) g10 hpp hza (by omega) p5 (by omega) p4 (by omega)) d_L_law_237 (by omega) g10 rfl rfl (by decide) (Nat.le_of_ble_eq_true rfl) ⟨by show k + 2 + 0 ≤ 600000; omega, by show s0 + 2007 + 0 ≤ 7302250; omega⟩ (st := [.int (-3)]) rfl (kRd ?_)
          show G (k + 2) (s0 + 2007) 240 [some (.ref bs), some (.ref (q 0)), some (.ref (q 10)), some (.int (nI i))] [.int (-3), .int (-3)] N q f
          refine zr_icmp_eqt (tgt := 645) X d_L_law_240 rfl rfl ?_
          exact zr_widen X (Nat.le_refl _) (Nat.le_refl _) (back N q f I0)
  · skip
    show G k s0 222 [some (.ref bs), some (.ref (q 0)), some (.ref (q 10)), some (.int (nI i))] [] N q f
    refine zr_aload_n X d_L_law_222 rfl ?_
    refine zr_aload_n X d_L_law_223 rfl ?_
    refine zr_iload_n X d_L_law_224 rfl ?_
    refine zr_iconst (v := nI 1) X d_L_law_225 (by decide) ?_
    refine zr_iadd (z := nI (i + 1)) X d_L_law_226 (nI_add _ _) ?_
    refine zs_ld (v := x) S d_L_law_227 (by omega) hL hx ?_
    refine zr_callV X K_L_32 KI_L_32 KS_L_32 (c_B_insert_n (by omega) h0 h1 hno) d_L_law_228 (by omega) h0 rfl rfl (by decide) (Nat.le_of_ble_eq_true rfl) ⟨by show k + 2 ≤ 600000; omega, by show s0 + 2007 ≤ 7302250; omega⟩ (st := []) rfl (kRd ?_)
    show G (k + 2) (s0 + 2007) 231 [some (.ref bs), some (.ref (q 0)), some (.ref (q 10)), some (.int (nI i))] [.int (-1)] N q f
    refine zr_aload_n X d_L_law_231 rfl ?_
    refine zr_aload_n X d_L_law_232 rfl ?_
    refine zr_iload_n X d_L_law_233 rfl ?_
    refine zr_iconst (v := nI 1) X d_L_law_234 (by decide) ?_
    refine zr_iadd (z := nI (i + 1)) X d_L_law_235 (nI_add _ _) ?_
    refine zs_ld (v := x) S d_L_law_236 (by omega) hL hx ?_
    refine zr_callV X K_L_36 KI_L_36 KS_L_36 (c_O_insert_n (by omega) g10 hno) d_L_law_237 (by omega) g10 rfl rfl (by decide) (Nat.le_of_ble_eq_true rfl) ⟨by show k + 2 + 0 ≤ 600000; omega, by show s0 + 2007 + 0 ≤ 7302250; omega⟩ (st := [.int (-1)]) rfl (kRd ?_)
    show G (k + 2) (s0 + 2007) 240 [some (.ref bs), some (.ref (q 0)), some (.ref (q 10)), some (.int (nI i))] [.int (-1), .int (-1)] N q f
    refine zr_icmp_eqt (tgt := 645) X d_L_law_240 rfl rfl ?_
    exact zr_widen X (Nat.le_refl _) (Nat.le_refl _) (back N q f I0)

set_option maxRecDepth 100000 in
set_option maxHeartbeats 4000000 in
theorem L_5 {G : zT} {l : Launch} {D : va_G} {cI cC cZ cV : ClassId} {nm : String} {bs L : Nat} {xs : Nat → Int32} (X : zOK G l room_1 code 4 R_L nm D (zty cI cC cZ cV)) (S : zLW G bs L xs) {N : Nat} {q : Nat → Nat} {f : zF} {k s0 i : Nat} (hL : L ≤ 2048) (hi : i + 3 < L) (hk : k + 2 ≤ 600000) (hs : s0 + 2007 ≤ 7302250) (I : zInv cI cC cZ cV N q f) (back : ∀ (N' : Nat) (q' : Nat → Nat) (f' : zF), zInv cI cC cZ cV N' q' f' → G (k + 2) (s0 + 2007) 645 [some (.ref bs), some (.ref (q' 0)), some (.ref (q' 10)), some (.int (nI i))] [] N' q' f') : G k s0 245 [some (.ref bs), some (.ref (q 0)), some (.ref (q 10)), some (.int (nI i))] [] N q f := by
  have I0 := I
  obtain ⟨n, ins, a, k1, par, com, tp, tc, tq, tz, tt, cn, lat, mp, mr, sc, pa, iset, ma, mr2, sc2, C, M0, P⟩ := I
  have C0 := C
  have M00 := M0
  have P0 := P
  obtain ⟨c1, Cu, c3, c4, c5, c6, c7, ⟨md, c8, c8'⟩, ⟨wo, c9⟩, V⟩ := C
  have Cu0 := Cu
  obtain ⟨h0, h1, ⟨tx1, h2, htx1, hag1⟩, h6⟩ := Cu
  obtain ⟨g10, g11, g19, hsc2, g20, g21, g22, co, pl, mn, fi, pool, tx2, way, g12, g13, g14, g15, g16, g17, g18, M, Lp, hpool, htx2, hag2⟩ := M0
  obtain ⟨p1, p2, ha, p4, p5, hp0, T, p8, p9, p10, p11, p12⟩ := P
  have hza := T.2.1 a ha
  have hzi := p8 a ha
  have hp := fun v h0 h => T.lt (v := v) h0 h
  generalize hx : xs (i + 1) = x
  generalize hy : xs (i + 2) = y
  rcases z_posS x y (n := tz a) (by omega) with ⟨p, c, hpc, rfl, rfl⟩ | hno
  · skip
    by_cases hc0 : c = 0
    · skip
      show G k s0 245 [some (.ref bs), some (.ref (q 0)), some (.ref (q 10)), some (.int (nI i))] [] N q f
      refine zr_aload_n X d_L_law_245 rfl ?_
      refine zr_aload_n X d_L_law_246 rfl ?_
      refine zr_iload_n X d_L_law_247 rfl ?_
      refine zr_iconst (v := nI 1) X d_L_law_248 (by decide) ?_
      refine zr_iadd (z := nI (i + 1)) X d_L_law_249 (nI_add _ _) ?_
      refine zs_ld (v := nI p) S d_L_law_250 (by omega) hL hx ?_
      refine zr_aload_n X d_L_law_251 rfl ?_
      refine zr_iload_n X d_L_law_252 rfl ?_
      refine zr_iconst (v := nI 2) X d_L_law_253 (by decide) ?_
      refine zr_iadd (z := nI (i + 2)) X d_L_law_254 (nI_add _ _) ?_
      refine zs_ld (v := nI c) S d_L_law_255 (by omega) hL hy ?_
      refine zr_callV X K_L_37 KI_L_37 KS_L_37 (c_B_delete_e (by omega) h0 h1 hpc hza hc0) d_L_law_256 (by omega) h0 rfl rfl (by decide) (Nat.le_of_ble_eq_true rfl) ⟨by show k + 2 ≤ 600000; omega, by show s0 + 2007 ≤ 7302250; omega⟩ (st := []) rfl (kRd ?_)
      show G (k + 2) (s0 + 2007) 259 [some (.ref bs), some (.ref (q 0)), some (.ref (q 10)), some (.int (nI i))] [.int (-2)] N q f
      refine zr_aload_n X d_L_law_259 rfl ?_
      refine zr_aload_n X d_L_law_260 rfl ?_
      refine zr_iload_n X d_L_law_261 rfl ?_
      refine zr_iconst (v := nI 1) X d_L_law_262 (by decide) ?_
      refine zr_iadd (z := nI (i + 1)) X d_L_law_263 (nI_add _ _) ?_
      refine zs_ld (v := nI p) S d_L_law_264 (by omega) hL hx ?_
      refine zr_aload_n X d_L_law_265 rfl ?_
      refine zr_iload_n X d_L_law_266 rfl ?_
      refine zr_iconst (v := nI 2) X d_L_law_267 (by decide) ?_
      refine zr_iadd (z := nI (i + 2)) X d_L_law_268 (nI_add _ _) ?_
      refine zs_ld (v := nI c) S d_L_law_269 (by omega) hL hy ?_
      refine zr_callV X K_L_40 KI_L_40 KS_L_40 (c_O_delete_e (by omega) g10 hpc hza hc0) d_L_law_270 (by omega) g10 rfl rfl (by decide) (Nat.le_of_ble_eq_true rfl) ⟨by show k + 2 + 0 ≤ 600000; omega, by show s0 + 2007 + 0 ≤ 7302250; omega⟩ (st := [.int (-2)]) rfl (kRd ?_)
      show G (k + 2) (s0 + 2007) 273 [some (.ref bs), some (.ref (q 0)), some (.ref (q 10)), some (.int (nI i))] [.int (-2), .int (-2)] N q f
      refine zr_icmp_eqt (tgt := 645) X d_L_law_273 rfl rfl ?_
      exact zr_widen X (Nat.le_refl _) (Nat.le_refl _) (back N q f I0)
    · skip
      by_cases hn2 : n = 122
      · skip
        show G k s0 245 [some (.ref bs), some (.ref (q 0)), some (.ref (q 10)), some (.int (nI i))] [] N q f
        refine zr_aload_n X d_L_law_245 rfl ?_
        refine zr_aload_n X d_L_law_246 rfl ?_
        refine zr_iload_n X d_L_law_247 rfl ?_
        refine zr_iconst (v := nI 1) X d_L_law_248 (by decide) ?_
        refine zr_iadd (z := nI (i + 1)) X d_L_law_249 (nI_add _ _) ?_
        refine zs_ld (v := nI p) S d_L_law_250 (by omega) hL hx ?_
        refine zr_aload_n X d_L_law_251 rfl ?_
        refine zr_iload_n X d_L_law_252 rfl ?_
        refine zr_iconst (v := nI 2) X d_L_law_253 (by decide) ?_
        refine zr_iadd (z := nI (i + 2)) X d_L_law_254 (nI_add _ _) ?_
        refine zs_ld (v := nI c) S d_L_law_255 (by omega) hL hy ?_
        refine zr_callV X K_L_37 KI_L_37 KS_L_37 (c_B_delete_f (by omega) h0 h1 hpc hza (by omega) hn2) d_L_law_256 (by omega) h0 rfl rfl (by decide) (Nat.le_of_ble_eq_true rfl) ⟨by show k + 2 ≤ 600000; omega, by show s0 + 2007 ≤ 7302250; omega⟩ (st := []) rfl (kRd ?_)
        show G (k + 2) (s0 + 2007) 259 [some (.ref bs), some (.ref (q 0)), some (.ref (q 10)), some (.int (nI i))] [.int (-3)] N q f
        refine zr_aload_n X d_L_law_259 rfl ?_
        refine zr_aload_n X d_L_law_260 rfl ?_
        refine zr_iload_n X d_L_law_261 rfl ?_
        refine zr_iconst (v := nI 1) X d_L_law_262 (by decide) ?_
        refine zr_iadd (z := nI (i + 1)) X d_L_law_263 (nI_add _ _) ?_
        refine zs_ld (v := nI p) S d_L_law_264 (by omega) hL hx ?_
        refine zr_aload_n X d_L_law_265 rfl ?_
        refine zr_iload_n X d_L_law_266 rfl ?_
        refine zr_iconst (v := nI 2) X d_L_law_267 (by decide) ?_
        refine zr_iadd (z := nI (i + 2)) X d_L_law_268 (nI_add _ _) ?_
        refine zs_ld (v := nI c) S d_L_law_269 (by omega) hL hy ?_
        refine zr_callV X K_L_40 KI_L_40 KS_L_40 (c_O_delete_f (by omega) g10 hpc hza (by omega) hn2) d_L_law_270 (by omega) g10 rfl rfl (by decide) (Nat.le_of_ble_eq_true rfl) ⟨by show k + 2 + 0 ≤ 600000; omega, by show s0 + 2007 + 0 ≤ 7302250; omega⟩ (st := [.int (-3)]) rfl (kRd ?_)
        show G (k + 2) (s0 + 2007) 273 [some (.ref bs), some (.ref (q 0)), some (.ref (q 10)), some (.int (nI i))] [.int (-3), .int (-3)] N q f
        refine zr_icmp_eqt (tgt := 645) X d_L_law_273 rfl rfl ?_
        exact zr_widen X (Nat.le_refl _) (Nat.le_refl _) (back N q f I0)
      · skip
        have hok : zoK false p c (tz a) := ⟨hpc, hza⟩
        have hg : false = false → ∀ j, j < c → (va_cpy tx1 (fun _ => 0) p 0 c) j = tt a (p + j) := fun _ j hj => by
          rw [pk_cpy_in (by omega) (by omega), show p + (j - 0) = p + j by omega]
          exact hag1 _ (by omega)
        show G k s0 245 [some (.ref bs), some (.ref (q 0)), some (.ref (q 10)), some (.int (nI i))] [] N q f
        refine zr_aload_n X d_L_law_245 rfl ?_
        refine zr_aload_n X d_L_law_246 rfl ?_
        refine zr_iload_n X d_L_law_247 rfl ?_
        refine zr_iconst (v := nI 1) X d_L_law_248 (by decide) ?_
        refine zr_iadd (z := nI (i + 1)) X d_L_law_249 (nI_add _ _) ?_
        refine zs_ld (v := nI p) S d_L_law_250 (by omega) hL hx ?_
        refine zr_aload_n X d_L_law_251 rfl ?_
        refine zr_iload_n X d_L_law_252 rfl ?_
        refine zr_iconst (v := nI 2) X d_L_law_253 (by decide) ?_
        refine zr_iadd (z := nI (i + 2)) X d_L_law_254 (nI_add _ _) ?_
        refine zs_ld (v := nI c) S d_L_law_255 (by omega) hL hy ?_
        refine zr_callV X K_L_37 KI_L_37 KS_L_37 (c_B_delete_y (by omega) h0 h1 h2 c6 h6 c7 c8 (by omega) (by omega) (by omega) (V a ha).1 hpc hza (by omega) (by omega) hok htx1) d_L_law_256 (by omega) h0 rfl rfl (by decide) (Nat.le_of_ble_eq_true rfl) ⟨by show k + 2 ≤ 600000; omega, by show s0 + 2007 ≤ 7302250; omega⟩ (st := []) rfl (fun v9 N9 q9 f9 hr9 => ?_)
        obtain ⟨rfl, hNw⟩ := hr9
        have hfr := hNw.2.2.2.2.2.2.2.2.2.2
        have hN9 : N9 = N + 2 := hNw.1
        obtain ⟨hq, C1⟩ := C0.new P0 hok (zCh.cpy htx1 zCh.z) htx1 hag1 c8' (by omega) hNw
        have hm := fun jj (h : 10 ≤ jj ∧ jj < 23) => hfr jj (by omega) (by omega) (by omega) (by omega) (by omega)
        have M1 := (M00.adr (q' := q9) (fun j hj => hq j (by omega))).keep (f' := f9) (fun jj h1 h2 => hm jj ⟨h1, h2⟩)
        rw [← hq 0 (by omega), ← hq 10 (by omega)]
        show G (k + 2) (s0 + 2007) 259 [some (.ref bs), some (.ref (q9 0)), some (.ref (q9 10)), some (.int (nI i))] [.int (nI n)] N9 q9 f9
        refine zr_aload_n X d_L_law_259 rfl ?_
        refine zr_aload_n X d_L_law_260 rfl ?_
        refine zr_iload_n X d_L_law_261 rfl ?_
        refine zr_iconst (v := nI 1) X d_L_law_262 (by decide) ?_
        refine zr_iadd (z := nI (i + 1)) X d_L_law_263 (nI_add _ _) ?_
        refine zs_ld (v := nI p) S d_L_law_264 (by omega) hL hx ?_
        refine zr_aload_n X d_L_law_265 rfl ?_
        refine zr_iload_n X d_L_law_266 rfl ?_
        refine zr_iconst (v := nI 2) X d_L_law_267 (by decide) ?_
        refine zr_iadd (z := nI (i + 2)) X d_L_law_268 (nI_add _ _) ?_
        refine zs_ld (v := nI c) S d_L_law_269 (by omega) hL hy ?_
        refine zr_callV X K_L_40 KI_L_40 KS_L_40 (c_O_delete_y (by omega) M1.1 ((hm 11 ⟨by decide, by decide⟩).trans g11) ((hm 12 ⟨by decide, by decide⟩).trans g12) ((hm 13 ⟨by decide, by decide⟩).trans g13) ((hm 14 ⟨by decide, by decide⟩).trans g14) ((hm 15 ⟨by decide, by decide⟩).trans g15) ((hm 16 ⟨by decide, by decide⟩).trans g16) ((hm 17 ⟨by decide, by decide⟩).trans g17) ((hm 18 ⟨by decide, by decide⟩).trans g18) ((hm 21 ⟨by decide, by decide⟩).trans g21) ((hm 22 ⟨by decide, by decide⟩).trans g22) htx2 hpool (T.new (gp := va_cpy tx1 (fun _ => 0) p 0 c) (by omega) ha hok hg) (M.ext (n' := n) (fun v hv => ⟨up_ne' (by omega), up_ne' (by omega), up_ne' (by omega), up_ne' (by omega), up_ne' (by omega)⟩)) (by omega) up_eq up_eq up_eq up_eq hpc hza (by omega)) d_L_law_270 (by omega) M1.1 rfl rfl (by decide) (Nat.le_of_ble_eq_true rfl) ⟨by show k + 2 + 0 ≤ 600000; omega, by show s0 + 2007 + 0 ≤ 7302250; omega⟩ (st := [.int (nI n)]) rfl (fun v8 N8 q8 f8 hr8 => ?_)
        obtain ⟨rfl, eN8, eq8, Ed⟩ := hr8
        rw [eN8, eq8]
        show G (k + 2) (s0 + 2007) 273 [some (.ref bs), some (.ref (q9 0)), some (.ref (q9 10)), some (.int (nI i))] [.int (nI n), .int (nI n)] N9 q9 f8
        refine zr_icmp_eqt (tgt := 645) X d_L_law_273 rfl rfl ?_
        exact back N9 q9 f8 ⟨n + 1, ins, n, k1, va_up par n a, va_up com n false, va_up tp n p, va_up tc n c, va_up tq n (va_cpy tx1 (fun _ => 0) p 0 c), va_up tz n (zoS false (tz a) c), va_up tt n (zoT false (tt a) (va_cpy tx1 (fun _ => 0) p 0 c) p c (tz a)), va_up (va_up cn a (cn a + 1)) n 0, va_up (va_up lat a (.ref (q9 (24 + 2 * n)))) n .null, zoM false p c mp mr, mr, sc, upd pa n (nI a), iset, zoM false p c ma mr2, mr2, sc2, C1.keep (fun jj h => (Ed.2.2.2.2.2.2 jj (by omega) (by omega) (by omega) (by omega) (by omega) (by omega) (by omega) (by omega)).trans rfl), zIM.new (tx := tx2) P0 ((hm 15 ⟨by decide, by decide⟩).trans g15) ((hm 16 ⟨by decide, by decide⟩).trans g16) ((hm 19 ⟨by decide, by decide⟩).trans g19) hsc2 ((hm 20 ⟨by decide, by decide⟩).trans g20) ((hm 22 ⟨by decide, by decide⟩).trans g22) hpool M Lp.del p4 Ed, P0.new (fun v h0 h => (M v h0 h).1) hok hg (by omega) p4 (by omega) (by show tz a - c ≤ ins; omega) (fun j hj => hq j (by omega))⟩
  · skip
    show G k s0 245 [some (.ref bs), some (.ref (q 0)), some (.ref (q 10)), some (.int (nI i))] [] N q f
    refine zr_aload_n X d_L_law_245 rfl ?_
    refine zr_aload_n X d_L_law_246 rfl ?_
    refine zr_iload_n X d_L_law_247 rfl ?_
    refine zr_iconst (v := nI 1) X d_L_law_248 (by decide) ?_
    refine zr_iadd (z := nI (i + 1)) X d_L_law_249 (nI_add _ _) ?_
    refine zs_ld (v := x) S d_L_law_250 (by omega) hL hx ?_
    refine zr_aload_n X d_L_law_251 rfl ?_
    refine zr_iload_n X d_L_law_252 rfl ?_
    refine zr_iconst (v := nI 2) X d_L_law_253 (by decide) ?_
    refine zr_iadd (z := nI (i + 2)) X d_L_law_254 (nI_add _ _) ?_
    refine zs_ld (v := y) S d_L_law_255 (by omega) hL hy ?_
    refine zr_callV X K_L_37 KI_L_37 KS_L_37 (c_B_delete_n (by omega) h0 h1 (by omega) hno) d_L_law_256 (by omega) h0 rfl rfl (by decide) (Nat.le_of_ble_eq_true rfl) ⟨by show k + 2 ≤ 600000; omega, by show s0 + 2007 ≤ 7302250; omega⟩ (st := []) rfl (kRd ?_)
    show G (k + 2) (s0 + 2007) 259 [some (.ref bs), some (.ref (q 0)), some (.ref (q 10)), some (.int (nI i))] [.int (-1)] N q f
    refine zr_aload_n X d_L_law_259 rfl ?_
    refine zr_aload_n X d_L_law_260 rfl ?_
    refine zr_iload_n X d_L_law_261 rfl ?_
    refine zr_iconst (v := nI 1) X d_L_law_262 (by decide) ?_
    refine zr_iadd (z := nI (i + 1)) X d_L_law_263 (nI_add _ _) ?_
    refine zs_ld (v := x) S d_L_law_264 (by omega) hL hx ?_
    refine zr_aload_n X d_L_law_265 rfl ?_
    refine zr_iload_n X d_L_law_266 rfl ?_
    refine zr_iconst (v := nI 2) X d_L_law_267 (by decide) ?_
    refine zr_iadd (z := nI (i + 2)) X d_L_law_268 (nI_add _ _) ?_
    refine zs_ld (v := y) S d_L_law_269 (by omega) hL hy ?_
    refine zr_callV X K_L_40 KI_L_40 KS_L_40 (c_O_delete_n (by omega) g10 (by omega) hno) d_L_law_270 (by omega) g10 rfl rfl (by decide) (Nat.le_of_ble_eq_true rfl) ⟨by show k + 2 + 0 ≤ 600000; omega, by show s0 + 2007 + 0 ≤ 7302250; omega⟩ (st := [.int (-1)]) rfl (kRd ?_)
    show G (k + 2) (s0 + 2007) 273 [some (.ref bs), some (.ref (q 0)), some (.ref (q 10)), some (.int (nI i))] [.int (-1), .int (-1)] N q f
    refine zr_icmp_eqt (tgt := 645) X d_L_law_273 rfl rfl ?_
    exact zr_widen X (Nat.le_refl _) (Nat.le_refl _) (back N q f I0)
