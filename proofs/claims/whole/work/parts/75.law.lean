set_option maxRecDepth 100000 in
set_option maxHeartbeats 4000000 in
theorem L_0 {G : zT} {l : Launch} {D : va_G} {cI cC cZ cV : ClassId} {nm : String} {bs L : Nat} {xs : Nat → Int32} (X : zOK G l room_1 code 4 R_L nm D (zty cI cC cZ cV)) (S : zLW G bs L xs) {N : Nat} {q : Nat → Nat} {f : zF} {k s0 i : Nat} (hL : L ≤ 2048) (hi : i + 3 < L) (hk : k + 2 ≤ 600000) (hs : s0 + 2007 ≤ 7302250) (I : zInv cI cC cZ cV N q f) (back : ∀ (N' : Nat) (q' : Nat → Nat) (f' : zF), zInv cI cC cZ cV N' q' f' → G (k + 2) (s0 + 2007) 645 [some (.ref bs), some (.ref (q' 0)), some (.ref (q' 10)), some (.int (nI i))] [] N' q' f') : G k s0 140 [some (.ref bs), some (.ref (q 0)), some (.ref (q 10)), some (.int (nI i))] [] N q f := by
  have I0 := I
  obtain ⟨n, ins, a, k1, par, com, tp, tc, tq, tz, tt, cn, lat, mp, mr, sc, pa, iset, ma, mr2, sc2, C, M0, P⟩ := I
  have C0 := C
  have M00 := M0
  have P0 := P
  obtain ⟨c1, Cu, c3, c4, c5, c6, c7, ⟨md, c8, c8'⟩, ⟨wo, c9⟩, V⟩ := C
  have Cu0 := Cu
  obtain ⟨h0, h1, ⟨tx1, h2, htx1, hag1⟩, h6⟩ := Cu
  obtain ⟨g10, g11, g19, hsc2, g20, g21, g22, co, pl, mn, fi, pool, tx2, way, g12, g13, g14, g15, g16, g17, g18, M, Lp, hpool, htx2, hag2⟩ := M0
  obtain ⟨p1, p2, ha, p4, p5, hp0, T, p8, p9, p10, p11, p12⟩ := P
  have hza := T.2.1 a ha
  have hzi := p8 a ha
  have hp := fun v h0 h => T.lt (v := v) h0 h
  generalize hx : xs (i + 1) = x
  obtain ⟨ch, hch⟩ : ∃ z, (x.toUInt32 % 65536).toInt32 = z := ⟨_, rfl⟩
  have hfit : fits .char (.int ch) = true := by rw [← hch]; exact pk_fc _
  by_cases hc : zIsCh ch
  · skip
    by_cases hk40 : k1 = 40
    · skip
      show G k s0 140 [some (.ref bs), some (.ref (q 0)), some (.ref (q 10)), some (.int (nI i))] [] N q f
      refine zr_aload_n X d_L_law_140 rfl ?_
      refine zr_aload_n X d_L_law_141 rfl ?_
      refine zr_iload_n X d_L_law_142 rfl ?_
      refine zr_iconst (v := nI 1) X d_L_law_143 (by decide) ?_
      refine zr_iadd (z := nI (i + 1)) X d_L_law_144 (nI_add _ _) ?_
      refine zs_ld (v := x) S d_L_law_145 (by omega) hL hx ?_
      refine zr_i2c (v := ch) X d_L_law_146 hch ?_
      refine zr_callV X K_L_13 KI_L_13 KS_L_13 (c_B_type_f (by omega) h0 c3 hc hk40) d_L_law_147 (by omega) h0 rfl rfl (by decide) (Nat.le_of_ble_eq_true rfl) ⟨by show k + 0 ≤ 600000; omega, by show s0 + 0 ≤ 7302250; omega⟩ (st := []) rfl (kRd ?_)
      show G k s0 150 [some (.ref bs), some (.ref (q 0)), some (.ref (q 10)), some (.int (nI i))] [.int (nI 0)] N q f
      refine zr_aload_n X d_L_law_150 rfl ?_
      refine zr_aload_n X d_L_law_151 rfl ?_
      refine zr_iload_n X d_L_law_152 rfl ?_
      refine zr_iconst (v := nI 1) X d_L_law_153 (by decide) ?_
      refine zr_iadd (z := nI (i + 1)) X d_L_law_154 (nI_add _ _) ?_
      refine zs_ld (v := x) S d_L_law_155 (by omega) hL hx ?_
      refine zr_i2c (v := ch) X d_L_law_156 hch ?_
      refine zr_callV X K_L_17 KI_L_17 KS_L_17 (c_O_type_f (by omega) g10 hc hk40) d_L_law_157 (by omega) g10 rfl rfl (by decide) (Nat.le_of_ble_eq_true rfl) ⟨by show k + 0 ≤ 600000; omega, by show s0 + 0 ≤ 7302250; omega⟩ (st := [.int (nI 0)]) rfl (kRd ?_)
      show G k s0 160 [some (.ref bs), some (.ref (q 0)), some (.ref (q 10)), some (.int (nI i))] [.int (nI 0), .int (nI 0)] N q f
      refine zr_icmp_eqt (tgt := 645) X d_L_law_160 rfl rfl ?_
      exact zr_widen X (by omega) (by omega) (back N q f I0)
    · skip
      show G k s0 140 [some (.ref bs), some (.ref (q 0)), some (.ref (q 10)), some (.int (nI i))] [] N q f
      refine zr_aload_n X d_L_law_140 rfl ?_
      refine zr_aload_n X d_L_law_141 rfl ?_
      refine zr_iload_n X d_L_law_142 rfl ?_
      refine zr_iconst (v := nI 1) X d_L_law_143 (by decide) ?_
      refine zr_iadd (z := nI (i + 1)) X d_L_law_144 (nI_add _ _) ?_
      refine zs_ld (v := x) S d_L_law_145 (by omega) hL hx ?_
      refine zr_i2c (v := ch) X d_L_law_146 hch ?_
      refine zr_callV X K_L_13 KI_L_13 KS_L_13 (c_B_type_y (by omega) h0 c3 c4 hc hfit (by omega)) d_L_law_147 (by omega) h0 rfl rfl (by decide) (Nat.le_of_ble_eq_true rfl) ⟨by show k + 0 ≤ 600000; omega, by show s0 + 0 ≤ 7302250; omega⟩ (st := []) rfl (fun v9 N9 q9 f9 hr9 => ?_)
      obtain ⟨rfl, eN, eq9, rfl⟩ := hr9
      rw [eN, eq9]
      show G k s0 150 [some (.ref bs), some (.ref (q 0)), some (.ref (q 10)), some (.int (nI i))] [.int (nI 1)] N q (va_up (va_up f 4 (.inl (cC, 40, .inl (upd sc k1 ch)))) 3 (.inr (iR, [.ref (q 4), .int (nI (k1 + 1))])))
      refine zr_aload_n X d_L_law_150 rfl ?_
      refine zr_aload_n X d_L_law_151 rfl ?_
      refine zr_iload_n X d_L_law_152 rfl ?_
      refine zr_iconst (v := nI 1) X d_L_law_153 (by decide) ?_
      refine zr_iadd (z := nI (i + 1)) X d_L_law_154 (nI_add _ _) ?_
      refine zs_ld (v := x) S d_L_law_155 (by omega) hL hx ?_
      refine zr_i2c (v := ch) X d_L_law_156 hch ?_
      refine zr_callV X K_L_17 KI_L_17 KS_L_17 (c_O_type_y (by omega) (up_ne (by decide) (up_ne (by decide) g10)) (up_ne (by decide) (up_ne (by decide) g19)) hc hfit (by omega)) d_L_law_157 (by omega) (up_ne (by decide) (up_ne (by decide) g10)) rfl rfl (by decide) (Nat.le_of_ble_eq_true rfl) ⟨by show k + 0 ≤ 600000; omega, by show s0 + 0 ≤ 7302250; omega⟩ (st := [.int (nI 1)]) rfl (fun v9 N9 q9 f9 hr9 => ?_)
      obtain ⟨rfl, eN, eq9, rfl⟩ := hr9
      rw [eN, eq9]
      show G k s0 160 [some (.ref bs), some (.ref (q 0)), some (.ref (q 10)), some (.int (nI i))] [.int (nI 1), .int (nI 1)] N q (va_up (va_up (va_up (va_up f 4 (.inl (cC, 40, .inl (upd sc k1 ch)))) 3 (.inr (iR, [.ref (q 4), .int (nI (k1 + 1))]))) 19 (.inl (cC, 40, .inl (upd sc2 k1 ch)))) 10 (.inr (iO, [.int (nI n), .ref (q 11), .ref (q 12), .ref (q 13), .ref (q 14), .ref (q 15), .int (nI ins), .ref (q 16), .int (nI a), .int (nI (tz a)), .ref (q 17), .ref (q 18), .int (nI (k1 + 1)), .ref (q 19), .ref (q 20), .ref (q 21), .ref (q 22)])))
      refine zr_icmp_eqt (tgt := 645) X d_L_law_160 rfl rfl ?_
      exact zr_widen X (by omega) (by omega) (back N q _ ⟨n, ins, a, k1 + 1, par, com, tp, tc, tq, tz, tt, cn, lat, mp, mr, upd sc k1 ch, pa, iset, ma, mr2, upd sc2 k1 ch, (C0.scr up_eq (up_ne (by decide) up_eq) (zCh_upd c5 hfit) (fun jj a b => up_ne a (up_ne b rfl))).keep (fun jj h => up_ne (by omega) (up_ne (by omega) rfl)), (M00.keep (fun jj h1 h2 => up_ne (by omega) (up_ne (by omega) rfl))).scr up_eq (up_ne (by decide) up_eq) (zCh_upd hsc2 hfit) (fun jj a b => up_ne a (up_ne b rfl)), P0.scr (by omega) (fun j hj => by
        by_cases hjk : j = k1
        · rw [hjk, pk_us, pk_us]
        · rw [pk_un hjk, pk_un hjk]
          exact p10 j (by omega))⟩)
  · skip
    show G k s0 140 [some (.ref bs), some (.ref (q 0)), some (.ref (q 10)), some (.int (nI i))] [] N q f
    refine zr_aload_n X d_L_law_140 rfl ?_
    refine zr_aload_n X d_L_law_141 rfl ?_
    refine zr_iload_n X d_L_law_142 rfl ?_
    refine zr_iconst (v := nI 1) X d_L_law_143 (by decide) ?_
    refine zr_iadd (z := nI (i + 1)) X d_L_law_144 (nI_add _ _) ?_
    refine zs_ld (v := x) S d_L_law_145 (by omega) hL hx ?_
    refine zr_i2c (v := ch) X d_L_law_146 hch ?_
    refine zr_callV X K_L_13 KI_L_13 KS_L_13 (c_B_type_n (by omega) h0 hc) d_L_law_147 (by omega) h0 rfl rfl (by decide) (Nat.le_of_ble_eq_true rfl) ⟨by show k + 0 ≤ 600000; omega, by show s0 + 0 ≤ 7302250; omega⟩ (st := []) rfl (kRd ?_)
    show G k s0 150 [some (.ref bs), some (.ref (q 0)), some (.ref (q 10)), some (.int (nI i))] [.int (nI 0)] N q f
    refine zr_aload_n X d_L_law_150 rfl ?_
    refine zr_aload_n X d_L_law_151 rfl ?_
    refine zr_iload_n X d_L_law_152 rfl ?_
    refine zr_iconst (v := nI 1) X d_L_law_153 (by decide) ?_
    refine zr_iadd (z := nI (i + 1)) X d_L_law_154 (nI_add _ _) ?_
    refine zs_ld (v := x) S d_L_law_155 (by omega) hL hx ?_
    refine zr_i2c (v := ch) X d_L_law_156 hch ?_
    refine zr_callV X K_L_17 KI_L_17 KS_L_17 (c_O_type_n (by omega) g10 hc) d_L_law_157 (by omega) g10 rfl rfl (by decide) (Nat.le_of_ble_eq_true rfl) ⟨by show k + 0 ≤ 600000; omega, by show s0 + 0 ≤ 7302250; omega⟩ (st := [.int (nI 0)]) rfl (kRd ?_)
    show G k s0 160 [some (.ref bs), some (.ref (q 0)), some (.ref (q 10)), some (.int (nI i))] [.int (nI 0), .int (nI 0)] N q f
    refine zr_icmp_eqt (tgt := 645) X d_L_law_160 rfl rfl ?_
    exact zr_widen X (by omega) (by omega) (back N q f I0)

set_option maxRecDepth 100000 in
set_option maxHeartbeats 4000000 in
theorem L_1 {G : zT} {l : Launch} {D : va_G} {cI cC cZ cV : ClassId} {nm : String} {bs L : Nat} {xs : Nat → Int32} (X : zOK G l room_1 code 4 R_L nm D (zty cI cC cZ cV)) (S : zLW G bs L xs) {N : Nat} {q : Nat → Nat} {f : zF} {k s0 i : Nat} (hL : L ≤ 2048) (hi : i + 3 < L) (hk : k + 2 ≤ 600000) (hs : s0 + 2007 ≤ 7302250) (I : zInv cI cC cZ cV N q f) (back : ∀ (N' : Nat) (q' : Nat → Nat) (f' : zF), zInv cI cC cZ cV N' q' f' → G (k + 2) (s0 + 2007) 645 [some (.ref bs), some (.ref (q' 0)), some (.ref (q' 10)), some (.int (nI i))] [] N' q' f') : G k s0 165 [some (.ref bs), some (.ref (q 0)), some (.ref (q 10)), some (.int (nI i))] [] N q f := by
  have I0 := I
  obtain ⟨n, ins, a, k1, par, com, tp, tc, tq, tz, tt, cn, lat, mp, mr, sc, pa, iset, ma, mr2, sc2, C, M0, P⟩ := I
  have C0 := C
  have M00 := M0
  have P0 := P
  obtain ⟨c1, Cu, c3, c4, c5, c6, c7, ⟨md, c8, c8'⟩, ⟨wo, c9⟩, V⟩ := C
  have Cu0 := Cu
  obtain ⟨h0, h1, ⟨tx1, h2, htx1, hag1⟩, h6⟩ := Cu
  obtain ⟨g10, g11, g19, hsc2, g20, g21, g22, co, pl, mn, fi, pool, tx2, way, g12, g13, g14, g15, g16, g17, g18, M, Lp, hpool, htx2, hag2⟩ := M0
  obtain ⟨p1, p2, ha, p4, p5, hp0, T, p8, p9, p10, p11, p12⟩ := P
  have hza := T.2.1 a ha
  have hzi := p8 a ha
  have hp := fun v h0 h => T.lt (v := v) h0 h
  show G k s0 165 [some (.ref bs), some (.ref (q 0)), some (.ref (q 10)), some (.int (nI i))] [] N q f
  refine zr_aload_n X d_L_law_165 rfl ?_
  refine zr_callV X K_L_18 KI_L_18 KS_L_18 (c_B_wipe (by omega) h0 c3) d_L_law_166 (by omega) h0 rfl rfl (by decide) (Nat.le_of_ble_eq_true rfl) ⟨by show k + 0 ≤ 600000; omega, by show s0 + 0 ≤ 7302250; omega⟩ (st := []) rfl (kW ?_)
  show G k s0 169 [some (.ref bs), some (.ref (q 0)), some (.ref (q 10)), some (.int (nI i))] [] N q (va_up f 3 (.inr (iR, [.ref (q 4), .int (nI 0)])))
  refine zr_aload_n X d_L_law_169 rfl ?_
  refine zr_callV X K_L_21 KI_L_21 KS_L_21 (c_O_wipe (by omega) (up_ne (by decide) g10)) d_L_law_170 (by omega) (up_ne (by decide) g10) rfl rfl (by decide) (Nat.le_of_ble_eq_true rfl) ⟨by show k + 0 ≤ 600000; omega, by show s0 + 0 ≤ 7302250; omega⟩ (st := []) rfl (kW ?_)
  show G k s0 173 [some (.ref bs), some (.ref (q 0)), some (.ref (q 10)), some (.int (nI i))] [] N q (va_up (va_up f 3 (.inr (iR, [.ref (q 4), .int (nI 0)]))) 10 (.inr (iO, [.int (nI n), .ref (q 11), .ref (q 12), .ref (q 13), .ref (q 14), .ref (q 15), .int (nI ins), .ref (q 16), .int (nI a), .int (nI (tz a)), .ref (q 17), .ref (q 18), .int (nI 0), .ref (q 19), .ref (q 20), .ref (q 21), .ref (q 22)])))
  refine zr_goto (tgt := 645) X d_L_law_173 rfl ?_
  exact zr_widen X (by omega) (by omega) (back N q _ ⟨n, ins, a, 0, par, com, tp, tc, tq, tz, tt, cn, lat, mp, mr, sc, pa, iset, ma, mr2, sc2, (C0.scr up_eq (up_ne (by decide) c4) c5 (fun jj a b => up_ne a rfl)).keep (fun jj h => up_ne (by omega) rfl), (M00.keep (fun jj h1 h2 => up_ne (by omega) rfl)).scr up_eq (up_ne (by decide) (up_ne (by decide) g19)) hsc2 (fun jj a b => up_ne a rfl), P0.scr (by omega) (fun j hj => absurd hj (Nat.not_lt_zero _))⟩)

set_option maxRecDepth 100000 in
set_option maxHeartbeats 4000000 in
theorem L_2 {G : zT} {l : Launch} {D : va_G} {cI cC cZ cV : ClassId} {nm : String} {bs L : Nat} {xs : Nat → Int32} (X : zOK G l room_1 code 4 R_L nm D (zty cI cC cZ cV)) (S : zLW G bs L xs) {N : Nat} {q : Nat → Nat} {f : zF} {k s0 i : Nat} (hL : L ≤ 2048) (hi : i + 3 < L) (hk : k + 2 ≤ 600000) (hs : s0 + 2007 ≤ 7302250) (I : zInv cI cC cZ cV N q f) (back : ∀ (N' : Nat) (q' : Nat → Nat) (f' : zF), zInv cI cC cZ cV N' q' f' → G (k + 2) (s0 + 2007) 645 [some (.ref bs), some (.ref (q' 0)), some (.ref (q' 10)), some (.int (nI i))] [] N' q' f') : G k s0 176 [some (.ref bs), some (.ref (q 0)), some (.ref (q 10)), some (.int (nI i))] [] N q f := by
  have I0 := I
  obtain ⟨n, ins, a, k1, par, com, tp, tc, tq, tz, tt, cn, lat, mp, mr, sc, pa, iset, ma, mr2, sc2, C, M0, P⟩ := I
  have C0 := C
  have M00 := M0
  have P0 := P
  obtain ⟨c1, Cu, c3, c4, c5, c6, c7, ⟨md, c8, c8'⟩, ⟨wo, c9⟩, V⟩ := C
  have Cu0 := Cu
  obtain ⟨h0, h1, ⟨tx1, h2, htx1, hag1⟩, h6⟩ := Cu
  obtain ⟨g10, g11, g19, hsc2, g20, g21, g22, co, pl, mn, fi, pool, tx2, way, g12, g13, g14, g15, g16, g17, g18, M, Lp, hpool, htx2, hag2⟩ := M0
  obtain ⟨p1, p2, ha, p4, p5, hp0, T, p8, p9, p10, p11, p12⟩ := P
  have hza := T.2.1 a ha
  have hzi := p8 a ha
  have hp := fun v h0 h => T.lt (v := v) h0 h
  show G k s0 176 [some (.ref bs), some (.ref (q 0)), some (.ref (q 10)), some (.int (nI i))] [] N q f
  refine zr_aload_n X d_L_law_176 rfl ?_
  refine zr_callV X K_L_22 KI_L_22 KS_L_22 (c_B_scratch (by omega) h0 c3) d_L_law_177 (by omega) h0 rfl rfl (by decide) (Nat.le_of_ble_eq_true rfl) ⟨by show k + 0 ≤ 600000; omega, by show s0 + 0 ≤ 7302250; omega⟩ (st := []) rfl (kRd ?_)
  show G k s0 180 [some (.ref bs), some (.ref (q 0)), some (.ref (q 10)), some (.int (nI i))] [.int (nI k1)] N q f
  refine zr_aload_n X d_L_law_180 rfl ?_
  refine zr_callV X K_L_26 KI_L_26 KS_L_26 (c_O_scratch (by omega) g10) d_L_law_181 (by omega) g10 rfl rfl (by decide) (Nat.le_of_ble_eq_true rfl) ⟨by show k + 0 ≤ 600000; omega, by show s0 + 0 ≤ 7302250; omega⟩ (st := [.int (nI k1)]) rfl (kRd ?_)
  show G k s0 184 [some (.ref bs), some (.ref (q 0)), some (.ref (q 10)), some (.int (nI i))] [.int (nI k1), .int (nI k1)] N q f
  refine zr_icmp_eqt (tgt := 645) X d_L_law_184 rfl rfl ?_
  exact zr_widen X (by omega) (by omega) (back N q f I0)

set_option maxRecDepth 100000 in
set_option maxHeartbeats 4000000 in
theorem L_3 {G : zT} {l : Launch} {D : va_G} {cI cC cZ cV : ClassId} {nm : String} {bs L : Nat} {xs : Nat → Int32} (X : zOK G l room_1 code 4 R_L nm D (zty cI cC cZ cV)) (S : zLW G bs L xs) {N : Nat} {q : Nat → Nat} {f : zF} {k s0 i : Nat} (hL : L ≤ 2048) (hi : i + 3 < L) (hk : k + 2 ≤ 600000) (hs : s0 + 2007 ≤ 7302250) (I : zInv cI cC cZ cV N q f) (back : ∀ (N' : Nat) (q' : Nat → Nat) (f' : zF), zInv cI cC cZ cV N' q' f' → G (k + 2) (s0 + 2007) 645 [some (.ref bs), some (.ref (q' 0)), some (.ref (q' 10)), some (.int (nI i))] [] N' q' f') : G k s0 189 [some (.ref bs), some (.ref (q 0)), some (.ref (q 10)), some (.int (nI i))] [] N q f := by
  have I0 := I
  obtain ⟨n, ins, a, k1, par, com, tp, tc, tq, tz, tt, cn, lat, mp, mr, sc, pa, iset, ma, mr2, sc2, C, M0, P⟩ := I
  have C0 := C
  have M00 := M0
  have P0 := P
  obtain ⟨c1, Cu, c3, c4, c5, c6, c7, ⟨md, c8, c8'⟩, ⟨wo, c9⟩, V⟩ := C
  have Cu0 := Cu
  obtain ⟨h0, h1, ⟨tx1, h2, htx1, hag1⟩, h6⟩ := Cu
  obtain ⟨g10, g11, g19, hsc2, g20, g21, g22, co, pl, mn, fi, pool, tx2, way, g12, g13, g14, g15, g16, g17, g18, M, Lp, hpool, htx2, hag2⟩ := M0
  obtain ⟨p1, p2, ha, p4, p5, hp0, T, p8, p9, p10, p11, p12⟩ := P
  have hza := T.2.1 a ha
  have hzi := p8 a ha
  have hp := fun v h0 h => T.lt (v := v) h0 h
  generalize hx : xs (i + 1) = x
  generalize hy : xs (i + 2) = y
  rcases z_posS x y (n := tz a) (by omega) with ⟨p, c, hpc, rfl, rfl⟩ | hno
  · skip
    by_cases hc40 : c ≤ 40
    · skip
      show G k s0 189 [some (.ref bs), some (.ref (q 0)), some (.ref (q 10)), some (.int (nI i))] [] N q f
      refine zr_aload_n X d_L_law_189 rfl ?_
      refine zr_aload_n X d_L_law_190 rfl ?_
      refine zr_iload_n X d_L_law_191 rfl ?_
      refine zr_iconst (v := nI 1) X d_L_law_192 (by decide) ?_
      refine zr_iadd (z := nI (i + 1)) X d_L_law_193 (nI_add _ _) ?_
      refine zs_ld (v := nI p) S d_L_law_194 (by omega) hL hx ?_
      refine zr_aload_n X d_L_law_195 rfl ?_
      refine zr_iload_n X d_L_law_196 rfl ?_
      refine zr_iconst (v := nI 2) X d_L_law_197 (by decide) ?_
      refine zr_iadd (z := nI (i + 2)) X d_L_law_198 (nI_add _ _) ?_
      refine zs_ld (v := nI c) S d_L_law_199 (by omega) hL hy ?_
      refine zr_callV X K_L_27 KI_L_27 KS_L_27 (c_B_copy_y (by omega) h0 h1 h2 c3 c4 htx1 (by omega) hpc hc40) d_L_law_200 (by omega) h0 rfl rfl (by decide) (Nat.le_of_ble_eq_true rfl) ⟨by show k + 0 ≤ 600000; omega, by show s0 + 0 ≤ 7302250; omega⟩ (st := []) rfl (fun v9 N9 q9 f9 hr9 => ?_)
      obtain ⟨rfl, eN, eq9, rfl⟩ := hr9
      rw [eN, eq9]
      show G k s0 203 [some (.ref bs), some (.ref (q 0)), some (.ref (q 10)), some (.int (nI i))] [.int (nI c)] N q (va_up (va_up f 4 (.inl (cC, 40, .inl (va_cpy tx1 sc p 0 c)))) 3 (.inr (iR, [.ref (q 4), .int (nI c)])))
      refine zr_aload_n X d_L_law_203 rfl ?_
      refine zr_aload_n X d_L_law_204 rfl ?_
      refine zr_iload_n X d_L_law_205 rfl ?_
      refine zr_iconst (v := nI 1) X d_L_law_206 (by decide) ?_
      refine zr_iadd (z := nI (i + 1)) X d_L_law_207 (nI_add _ _) ?_
      refine zs_ld (v := nI p) S d_L_law_208 (by omega) hL hx ?_
      refine zr_aload_n X d_L_law_209 rfl ?_
      refine zr_iload_n X d_L_law_210 rfl ?_
      refine zr_iconst (v := nI 2) X d_L_law_211 (by decide) ?_
      refine zr_iadd (z := nI (i + 2)) X d_L_law_212 (nI_add _ _) ?_
      refine zs_ld (v := nI c) S d_L_law_213 (by omega) hL hy ?_
      refine zr_callV X K_L_31 KI_L_31 KS_L_31 (c_O_copy_y (by omega) (up_ne (by decide) (up_ne (by decide) g10)) (up_ne (by decide) (up_ne (by decide) g17)) (up_ne (by decide) (up_ne (by decide) g19)) htx2 (by omega) hpc hc40) d_L_law_214 (by omega) (up_ne (by decide) (up_ne (by decide) g10)) rfl rfl (by decide) (Nat.le_of_ble_eq_true rfl) ⟨by show k + 0 ≤ 600000; omega, by show s0 + 0 ≤ 7302250; omega⟩ (st := [.int (nI c)]) rfl (fun v9 N9 q9 f9 hr9 => ?_)
      obtain ⟨rfl, eN, eq9, rfl⟩ := hr9
      rw [eN, eq9]
      show G k s0 217 [some (.ref bs), some (.ref (q 0)), some (.ref (q 10)), some (.int (nI i))] [.int (nI c), .int (nI c)] N q (va_up (va_up (va_up (va_up f 4 (.inl (cC, 40, .inl (va_cpy tx1 sc p 0 c)))) 3 (.inr (iR, [.ref (q 4), .int (nI c)]))) 19 (.inl (cC, 40, .inl (va_cpy tx2 sc2 p 0 c)))) 10 (.inr (iO, [.int (nI n), .ref (q 11), .ref (q 12), .ref (q 13), .ref (q 14), .ref (q 15), .int (nI ins), .ref (q 16), .int (nI a), .int (nI (tz a)), .ref (q 17), .ref (q 18), .int (nI c), .ref (q 19), .ref (q 20), .ref (q 21), .ref (q 22)])))
      refine zr_icmp_eqt (tgt := 645) X d_L_law_217 rfl rfl ?_
      exact zr_widen X (by omega) (by omega) (back N q _ ⟨n, ins, a, c, par, com, tp, tc, tq, tz, tt, cn, lat, mp, mr, va_cpy tx1 sc p 0 c, pa, iset, ma, mr2, va_cpy tx2 sc2 p 0 c, (C0.scr up_eq (up_ne (by decide) up_eq) (zCh.cpy htx1 c5) (fun jj a b => up_ne a (up_ne b rfl))).keep (fun jj h => up_ne (by omega) (up_ne (by omega) rfl)), (M00.keep (fun jj h1 h2 => up_ne (by omega) (up_ne (by omega) rfl))).scr up_eq (up_ne (by decide) up_eq) (zCh.cpy htx2 hsc2) (fun jj a b => up_ne a (up_ne b rfl)), P0.scr hc40 (fun j hj => by
        rw [pk_cpy_in (by omega) (by omega), pk_cpy_in (by omega) (by omega), hag1 _ (by omega), hag2 _ (by omega)])⟩)
    · skip
      show G k s0 189 [some (.ref bs), some (.ref (q 0)), some (.ref (q 10)), some (.int (nI i))] [] N q f
      refine zr_aload_n X d_L_law_189 rfl ?_
      refine zr_aload_n X d_L_law_190 rfl ?_
      refine zr_iload_n X d_L_law_191 rfl ?_
      refine zr_iconst (v := nI 1) X d_L_law_192 (by decide) ?_
      refine zr_iadd (z := nI (i + 1)) X d_L_law_193 (nI_add _ _) ?_
      refine zs_ld (v := nI p) S d_L_law_194 (by omega) hL hx ?_
      refine zr_aload_n X d_L_law_195 rfl ?_
      refine zr_iload_n X d_L_law_196 rfl ?_
      refine zr_iconst (v := nI 2) X d_L_law_197 (by decide) ?_
      refine zr_iadd (z := nI (i + 2)) X d_L_law_198 (nI_add _ _) ?_
      refine zs_ld (v := nI c) S d_L_law_199 (by omega) hL hy ?_
      refine zr_callV X K_L_27 KI_L_27 KS_L_27 (c_B_copy_n2 (by omega) h0 h1 (by omega) hpc (by omega)) d_L_law_200 (by omega) h0 rfl rfl (by decide) (Nat.le_of_ble_eq_true rfl) ⟨by show k + 0 ≤ 600000; omega, by show s0 + 0 ≤ 7302250; omega⟩ (st := []) rfl (kRd ?_)
      show G k s0 203 [some (.ref bs), some (.ref (q 0)), some (.ref (q 10)), some (.int (nI i))] [.int (-1)] N q f
      refine zr_aload_n X d_L_law_203 rfl ?_
      refine zr_aload_n X d_L_law_204 rfl ?_
      refine zr_iload_n X d_L_law_205 rfl ?_
      refine zr_iconst (v := nI 1) X d_L_law_206 (by decide) ?_
      refine zr_iadd (z := nI (i + 1)) X d_L_law_207 (nI_add _ _) ?_
      refine zs_ld (v := nI p) S d_L_law_208 (by omega) hL hx ?_
      refine zr_aload_n X d_L_law_209 rfl ?_
      refine zr_iload_n X d_L_law_210 rfl ?_
      refine zr_iconst (v := nI 2) X d_L_law_211 (by decide) ?_
      refine zr_iadd (z := nI (i + 2)) X d_L_law_212 (nI_add _ _) ?_
      refine zs_ld (v := nI c) S d_L_law_213 (by omega) hL hy ?_
      refine zr_callV X K_L_31 KI_L_31 KS_L_31 (c_O_copy_n2 (by omega) g10 (by omega) hpc (by omega)) d_L_law_214 (by omega) g10 rfl rfl (by decide) (Nat.le_of_ble_eq_true rfl) ⟨by show k + 0 ≤ 600000; omega, by show s0 + 0 ≤ 7302250; omega⟩ (st := [.int (-1)]) rfl (kRd ?_)
      show G k s0 217 [some (.ref bs), some (.ref (q 0)), some (.ref (q 10)), some (.int (nI i))] [.int (-1), .int (-1)] N q f
      refine zr_icmp_eqt (tgt := 645) X d_L_law_217 rfl rfl ?_
      exact zr_widen X (by omega) (by omega) (back N q f I0)
  · skip
    show G k s0 189 [some (.ref bs), some (.ref (q 0)), some (.ref (q 10)), some (.int (nI i))] [] N q f
    refine zr_aload_n X d_L_law_189 rfl ?_
    refine zr_aload_n X d_L_law_190 rfl ?_
    refine zr_iload_n X d_L_law_191 rfl ?_
    refine zr_iconst (v := nI 1) X d_L_law_192 (by decide) ?_
    refine zr_iadd (z := nI (i + 1)) X d_L_law_193 (nI_add _ _) ?_
    refine zs_ld (v := x) S d_L_law_194 (by omega) hL hx ?_
    refine zr_aload_n X d_L_law_195 rfl ?_
    refine zr_iload_n X d_L_law_196 rfl ?_
    refine zr_iconst (v := nI 2) X d_L_law_197 (by decide) ?_
    refine zr_iadd (z := nI (i + 2)) X d_L_law_198 (nI_add _ _) ?_
    refine zs_ld (v := y) S d_L_law_199 (by omega) hL hy ?_
    refine zr_callV X K_L_27 KI_L_27 KS_L_27 (c_B_copy_n1 (by omega) h0 h1 (by omega) hno) d_L_law_200 (by omega) h0 rfl rfl (by decide) (Nat.le_of_ble_eq_true rfl) ⟨by show k + 0 ≤ 600000; omega, by show s0 + 0 ≤ 7302250; omega⟩ (st := []) rfl (kRd ?_)
    show G k s0 203 [some (.ref bs), some (.ref (q 0)), some (.ref (q 10)), some (.int (nI i))] [.int (-1)] N q f
    refine zr_aload_n X d_L_law_203 rfl ?_
    refine zr_aload_n X d_L_law_204 rfl ?_
    refine zr_iload_n X d_L_law_205 rfl ?_
    refine zr_iconst (v := nI 1) X d_L_law_206 (by decide) ?_
    refine zr_iadd (z := nI (i + 1)) X d_L_law_207 (nI_add _ _) ?_
    refine zs_ld (v := x) S d_L_law_208 (by omega) hL hx ?_
    refine zr_aload_n X d_L_law_209 rfl ?_
    refine zr_iload_n X d_L_law_210 rfl ?_
    refine zr_iconst (v := nI 2) X d_L_law_211 (by decide) ?_
    refine zr_iadd (z := nI (i + 2)) X d_L_law_212 (nI_add _ _) ?_
    refine zs_ld (v := y) S d_L_law_213 (by omega) hL hy ?_
    refine zr_callV X K_L_31 KI_L_31 KS_L_31 (c_O_copy_n1 (by omega) g10 (by omega) hno) d_L_law_214 (by omega) g10 rfl rfl (by decide) (Nat.le_of_ble_eq_true rfl) ⟨by show k + 0 ≤ 600000; omega, by show s0 + 0 ≤ 7302250; omega⟩ (st := [.int (-1)]) rfl (kRd ?_)
    show G k s0 217 [some (.ref bs), some (.ref (q 0)), some (.ref (q 10)), some (.int (nI i))] [.int (-1), .int (-1)] N q f
    refine zr_icmp_eqt (tgt := 645) X d_L_law_217 rfl rfl ?_
    exact zr_widen X (by omega) (by omega) (back N q f I0)

set_option maxRecDepth 100000 in
set_option maxHeartbeats 4000000 in
theorem L_9 {G : zT} {l : Launch} {D : va_G} {cI cC cZ cV : ClassId} {nm : String} {bs L : Nat} {xs : Nat → Int32} (X : zOK G l room_1 code 4 R_L nm D (zty cI cC cZ cV)) (S : zLW G bs L xs) {N : Nat} {q : Nat → Nat} {f : zF} {k s0 i : Nat} (hL : L ≤ 2048) (hi : i + 3 < L) (hk : k + 2 ≤ 600000) (hs : s0 + 2007 ≤ 7302250) (I : zInv cI cC cZ cV N q f) (back : ∀ (N' : Nat) (q' : Nat → Nat) (f' : zF), zInv cI cC cZ cV N' q' f' → G (k + 2) (s0 + 2007) 645 [some (.ref bs), some (.ref (q' 0)), some (.ref (q' 10)), some (.int (nI i))] [] N' q' f') : G k s0 327 [some (.ref bs), some (.ref (q 0)), some (.ref (q 10)), some (.int (nI i))] [] N q f := by
  have I0 := I
  obtain ⟨n, ins, a, k1, par, com, tp, tc, tq, tz, tt, cn, lat, mp, mr, sc, pa, iset, ma, mr2, sc2, C, M0, P⟩ := I
  have C0 := C
  have M00 := M0
  have P0 := P
  obtain ⟨c1, Cu, c3, c4, c5, c6, c7, ⟨md, c8, c8'⟩, ⟨wo, c9⟩, V⟩ := C
  have Cu0 := Cu
  obtain ⟨h0, h1, ⟨tx1, h2, htx1, hag1⟩, h6⟩ := Cu
  obtain ⟨g10, g11, g19, hsc2, g20, g21, g22, co, pl, mn, fi, pool, tx2, way, g12, g13, g14, g15, g16, g17, g18, M, Lp, hpool, htx2, hag2⟩ := M0
  obtain ⟨p1, p2, ha, p4, p5, hp0, T, p8, p9, p10, p11, p12⟩ := P
  have hza := T.2.1 a ha
  have hzi := p8 a ha
  have hp := fun v h0 h => T.lt (v := v) h0 h
  show G k s0 327 [some (.ref bs), some (.ref (q 0)), some (.ref (q 10)), some (.int (nI i))] [] N q f
  refine zr_aload_n X d_L_law_327 rfl ?_
  refine zr_callV X K_L_53 KI_L_53 KS_L_53 (c_B_version (by omega) h0 (by omega) (V a ha).1) d_L_law_328 (by omega) h0 rfl rfl (by decide) (Nat.le_of_ble_eq_true rfl) ⟨by show k + 0 ≤ 600000; omega, by show s0 + 0 ≤ 7302250; omega⟩ (st := []) rfl (kRd ?_)
  show G k s0 331 [some (.ref bs), some (.ref (q 0)), some (.ref (q 10)), some (.int (nI i))] [.int (nI a)] N q f
  refine zr_aload_n X d_L_law_331 rfl ?_
  refine zr_callV X K_L_56 KI_L_56 KS_L_56 (c_O_version (by omega) g10) d_L_law_332 (by omega) g10 rfl rfl (by decide) (Nat.le_of_ble_eq_true rfl) ⟨by show k + 0 ≤ 600000; omega, by show s0 + 0 ≤ 7302250; omega⟩ (st := [.int (nI a)]) rfl (kRd ?_)
  show G k s0 335 [some (.ref bs), some (.ref (q 0)), some (.ref (q 10)), some (.int (nI i))] [.int (nI a), .int (nI a)] N q f
  refine zr_icmp_eqt (tgt := 645) X d_L_law_335 rfl rfl ?_
  exact zr_widen X (by omega) (by omega) (back N q f I0)

set_option maxRecDepth 100000 in
set_option maxHeartbeats 4000000 in
theorem L_10 {G : zT} {l : Launch} {D : va_G} {cI cC cZ cV : ClassId} {nm : String} {bs L : Nat} {xs : Nat → Int32} (X : zOK G l room_1 code 4 R_L nm D (zty cI cC cZ cV)) (S : zLW G bs L xs) {N : Nat} {q : Nat → Nat} {f : zF} {k s0 i : Nat} (hL : L ≤ 2048) (hi : i + 3 < L) (hk : k + 2 ≤ 600000) (hs : s0 + 2007 ≤ 7302250) (I : zInv cI cC cZ cV N q f) (back : ∀ (N' : Nat) (q' : Nat → Nat) (f' : zF), zInv cI cC cZ cV N' q' f' → G (k + 2) (s0 + 2007) 645 [some (.ref bs), some (.ref (q' 0)), some (.ref (q' 10)), some (.int (nI i))] [] N' q' f') : G k s0 340 [some (.ref bs), some (.ref (q 0)), some (.ref (q 10)), some (.int (nI i))] [] N q f := by
  have I0 := I
  obtain ⟨n, ins, a, k1, par, com, tp, tc, tq, tz, tt, cn, lat, mp, mr, sc, pa, iset, ma, mr2, sc2, C, M0, P⟩ := I
  have C0 := C
  have M00 := M0
  have P0 := P
  obtain ⟨c1, Cu, c3, c4, c5, c6, c7, ⟨md, c8, c8'⟩, ⟨wo, c9⟩, V⟩ := C
  have Cu0 := Cu
  obtain ⟨h0, h1, ⟨tx1, h2, htx1, hag1⟩, h6⟩ := Cu
  obtain ⟨g10, g11, g19, hsc2, g20, g21, g22, co, pl, mn, fi, pool, tx2, way, g12, g13, g14, g15, g16, g17, g18, M, Lp, hpool, htx2, hag2⟩ := M0
  obtain ⟨p1, p2, ha, p4, p5, hp0, T, p8, p9, p10, p11, p12⟩ := P
  have hza := T.2.1 a ha
  have hzi := p8 a ha
  have hp := fun v h0 h => T.lt (v := v) h0 h
  show G k s0 340 [some (.ref bs), some (.ref (q 0)), some (.ref (q 10)), some (.int (nI i))] [] N q f
  refine zr_aload_n X d_L_law_340 rfl ?_
  refine zr_callV X K_L_57 KI_L_57 KS_L_57 (c_B_versions (by omega) h0) d_L_law_341 (by omega) h0 rfl rfl (by decide) (Nat.le_of_ble_eq_true rfl) ⟨by show k + 0 ≤ 600000; omega, by show s0 + 0 ≤ 7302250; omega⟩ (st := []) rfl (kRd ?_)
  show G k s0 344 [some (.ref bs), some (.ref (q 0)), some (.ref (q 10)), some (.int (nI i))] [.int (nI n)] N q f
  refine zr_aload_n X d_L_law_344 rfl ?_
  refine zr_callV X K_L_60 KI_L_60 KS_L_60 (c_O_versions (by omega) g10) d_L_law_345 (by omega) g10 rfl rfl (by decide) (Nat.le_of_ble_eq_true rfl) ⟨by show k + 0 ≤ 600000; omega, by show s0 + 0 ≤ 7302250; omega⟩ (st := [.int (nI n)]) rfl (kRd ?_)
  show G k s0 348 [some (.ref bs), some (.ref (q 0)), some (.ref (q 10)), some (.int (nI i))] [.int (nI n), .int (nI n)] N q f
  refine zr_icmp_eqt (tgt := 645) X d_L_law_348 rfl rfl ?_
  exact zr_widen X (by omega) (by omega) (back N q f I0)
