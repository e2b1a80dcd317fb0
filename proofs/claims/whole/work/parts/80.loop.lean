section ZLoop
variable {G : zT} {l : Launch} {D : va_G} {cI cC cZ cV : ClassId} {nm : String} {bs L : Nat} {xs : Nat → Int32}
set_option maxRecDepth 100000 in
set_option maxHeartbeats 4000000 in
theorem L_case (X : zOK G l room_1 code 4 R_L nm D (zty cI cC cZ cV)) (S : zLW G bs L xs) {N : Nat} {q : Nat → Nat} {f : zF} {k s0 i : Nat} (hL : L ≤ 2048) (hi : i + 3 < L) (hk : k + 2 ≤ 600000) (hs : s0 + 2007 ≤ 7302250) (I : zInv cI cC cZ cV N q f) (back : ∀ (N' : Nat) (q' : Nat → Nat) (f' : zF), zInv cI cC cZ cV N' q' f' → G (k + 2) (s0 + 2007) 645 [some (.ref bs), some (.ref (q' 0)), some (.ref (q' 10)), some (.int (nI i))] [] N' q' f') {j : Nat} (hj : j < 32) : G k s0 32 [some (.ref bs), some (.ref (q 0)), some (.ref (q 10)), some (.int (nI i))] [.int (nI j)] N q f := by
  rcases (show j = 0 ∨ j = 1 ∨ j = 2 ∨ j = 3 ∨ j = 4 ∨ j = 5 ∨ j = 6 ∨ j = 7 ∨ j = 8 ∨ j = 9 ∨ j = 10 ∨ j = 11 ∨ j = 12 ∨ j = 13 ∨ j = 14 ∨ j = 15 ∨ j = 16 ∨ j = 17 ∨ j = 18 ∨ j = 19 ∨ j = 20 ∨ j = 21 ∨ j = 22 ∨ 23 ≤ j by omega) with rfl | rfl | rfl | rfl | rfl | rfl | rfl | rfl | rfl | rfl | rfl | rfl | rfl | rfl | rfl | rfl | rfl | rfl | rfl | rfl | rfl | rfl | rfl | h
  · exact zr_tabIn (off := 108) (tgt := 140) X d_L_law_32 (by decide) (by decide) rfl rfl (L_0 X S hL hi hk hs I back)
  · exact zr_tabIn (off := 133) (tgt := 165) X d_L_law_32 (by decide) (by decide) rfl rfl (L_1 X S hL hi hk hs I back)
  · exact zr_tabIn (off := 144) (tgt := 176) X d_L_law_32 (by decide) (by decide) rfl rfl (L_2 X S hL hi hk hs I back)
  · exact zr_tabIn (off := 157) (tgt := 189) X d_L_law_32 (by decide) (by decide) rfl rfl (L_3 X S hL hi hk hs I back)
  · exact zr_tabIn (off := 190) (tgt := 222) X d_L_law_32 (by decide) (by decide) rfl rfl (L_4 X S hL hi hk hs I back)
  · exact zr_tabIn (off := 213) (tgt := 245) X d_L_law_32 (by decide) (by decide) rfl rfl (L_5 X S hL hi hk hs I back)
  · exact zr_tabIn (off := 246) (tgt := 278) X d_L_law_32 (by decide) (by decide) rfl rfl (L_6 X S hL hi hk hs I back)
  · exact zr_tabIn (off := 259) (tgt := 291) X d_L_law_32 (by decide) (by decide) rfl rfl (L_7 X S hL hi hk hs I back)
  · exact zr_tabIn (off := 272) (tgt := 304) X d_L_law_32 (by decide) (by decide) rfl rfl (L_8 X S hL hi hk hs I back)
  · exact zr_tabIn (off := 295) (tgt := 327) X d_L_law_32 (by decide) (by decide) rfl rfl (L_9 X S hL hi hk hs I back)
  · exact zr_tabIn (off := 308) (tgt := 340) X d_L_law_32 (by decide) (by decide) rfl rfl (L_10 X S hL hi hk hs I back)
  · exact zr_tabIn (off := 321) (tgt := 353) X d_L_law_32 (by decide) (by decide) rfl rfl (L_11 X S hL hi hk hs I back)
  · exact zr_tabIn (off := 344) (tgt := 376) X d_L_law_32 (by decide) (by decide) rfl rfl (L_12 X S hL hi hk hs I back)
  · exact zr_tabIn (off := 367) (tgt := 399) X d_L_law_32 (by decide) (by decide) rfl rfl (L_13 X S hL hi hk hs I back)
  · exact zr_tabIn (off := 380) (tgt := 412) X d_L_law_32 (by decide) (by decide) rfl rfl (L_14 X S hL hi hk hs I back)
  · exact zr_tabIn (off := 403) (tgt := 435) X d_L_law_32 (by decide) (by decide) rfl rfl (L_15 X S hL hi hk hs I back)
  · exact zr_tabIn (off := 416) (tgt := 448) X d_L_law_32 (by decide) (by decide) rfl rfl (L_16 X S hL hi hk hs I back)
  · exact zr_tabIn (off := 439) (tgt := 471) X d_L_law_32 (by decide) (by decide) rfl rfl (L_17 X S hL hi hk hs I back)
  · exact zr_tabIn (off := 462) (tgt := 494) X d_L_law_32 (by decide) (by decide) rfl rfl (L_18 X S hL hi hk hs I back)
  · exact zr_tabIn (off := 485) (tgt := 517) X d_L_law_32 (by decide) (by decide) rfl rfl (L_19 X S hL hi hk hs I back)
  · exact zr_tabIn (off := 544) (tgt := 576) X d_L_law_32 (by decide) (by decide) rfl rfl (L_20 X S hL hi hk hs I back)
  · exact zr_tabIn (off := 567) (tgt := 599) X d_L_law_32 (by decide) (by decide) rfl rfl (L_21 X S hL hi hk hs I back)
  · exact zr_tabIn (off := 590) (tgt := 622) X d_L_law_32 (by decide) (by decide) rfl rfl (L_22 X S hL hi hk hs I back)
  · exact zr_tabOut (tgt := 645) X d_L_law_32 (Or.inr (by rw [nI_toInt (by omega)]; omega)) rfl (zr_widen X (by omega) (by omega) (back N q f I))
set_option maxRecDepth 100000 in
set_option maxHeartbeats 4000000 in
theorem L_loop (X : zOK G l room_1 code 4 R_L nm D (zty cI cC cZ cV)) (S : zLW G bs L xs) (hL : L ≤ 2048) : ∀ (d i k s0 N : Nat) (q : Nat → Nat) (f : zF), L ≤ i + 4 * d → i ≤ 2048 → k + 2 * d ≤ 600000 → s0 + 2007 * d ≤ 7302250 → zInv cI cC cZ cV N q f → G k s0 18 [some (.ref bs), some (.ref (q 0)), some (.ref (q 10)), some (.int (nI i))] [] N q f := by
  intro d
  induction d with
  | zero =>
    intro i k s0 N q f hd hi hk hs I
    by_cases h4 : 4 ≤ L
    · skip
      show G k s0 18 [some (.ref bs), some (.ref (q 0)), some (.ref (q 10)), some (.int (nI i))] [] N q f
      refine zr_iload_n X d_L_law_18 rfl ?_
      refine zr_aload_n X d_L_law_19 rfl ?_
      refine zs_len S d_L_law_20 ?_
      refine zr_iconst (v := nI 4) X d_L_law_21 (by decide) ?_
      refine zr_isub (z := nI (L - 4)) X d_L_law_22 (pk_sub h4) ?_
      refine zr_icmp_gtt (tgt := 651) X d_L_law_23 rfl (nI_lt (by omega) (by omega)) ?_
      refine zr_iconst (v := 1) X d_L_law_651 (by decide) ?_
      exact zs_end S d_L_law_652 (by omega) (by omega)
    · skip
      show G k s0 18 [some (.ref bs), some (.ref (q 0)), some (.ref (q 10)), some (.int (nI i))] [] N q f
      refine zr_iload_n X d_L_law_18 rfl ?_
      refine zr_aload_n X d_L_law_19 rfl ?_
      refine zs_len S d_L_law_20 ?_
      refine zr_iconst (v := nI 4) X d_L_law_21 (by decide) ?_
      refine zr_isub (z := nI L - nI 4) X d_L_law_22 rfl ?_
      refine zr_icmp_gtt (tgt := 651) X d_L_law_23 rfl (Int32.lt_of_lt_of_le (pk_sneg (by decide) (by omega)) (nI_pos' (by omega))) ?_
      refine zr_iconst (v := 1) X d_L_law_651 (by decide) ?_
      exact zs_end S d_L_law_652 (by omega) (by omega)
  | succ d ih =>
    intro i k s0 N q f hd hi hk hs I
    by_cases hin : i + 4 ≤ L
    · skip
      show G k s0 18 [some (.ref bs), some (.ref (q 0)), some (.ref (q 10)), some (.int (nI i))] [] N q f
      obtain ⟨j, hj, hje⟩ := pk_andE (xs i) (m := 31) 5 (by decide)
      refine zr_iload_n X d_L_law_18 rfl ?_
      refine zr_aload_n X d_L_law_19 rfl ?_
      refine zs_len S d_L_law_20 ?_
      refine zr_iconst (v := nI 4) X d_L_law_21 (by decide) ?_
      refine zr_isub (z := nI (L - 4)) X d_L_law_22 (pk_sub (by omega)) ?_
      refine zr_icmp_gtf (tgt := 651) X d_L_law_23 rfl (nI_nlt (by omega) (by omega)) ?_
      refine zr_aload_n X d_L_law_26 rfl ?_
      refine zr_iload_n X d_L_law_27 rfl ?_
      refine zs_ld (v := xs i) S d_L_law_28 (by omega) hL rfl ?_
      refine zr_bipush (v := 31) X d_L_law_29 (by decide) ?_
      refine zr_iand (z := nI j) X d_L_law_31 hje ?_
      refine L_case X S hL (by omega) (by omega) (by omega) I (fun N' q' f' I' => ?_) hj
      refine zr_iinc (v := nI (i + 4)) (lv' := [some (.ref bs), some (.ref (q' 0)), some (.ref (q' 10)), some (.int (nI (i + 4)))]) X d_L_law_645 rfl (nI_add i 4) (by decide) rfl ?_
      refine zr_goto (tgt := 18) X d_L_law_648 rfl ?_
      exact ih (i + 4) (k + 2) (s0 + 2007) N' q' f' (by omega) (by omega) (by omega) (by omega) I'
    · skip
      by_cases h4 : 4 ≤ L
      · skip
        show G k s0 18 [some (.ref bs), some (.ref (q 0)), some (.ref (q 10)), some (.int (nI i))] [] N q f
        refine zr_iload_n X d_L_law_18 rfl ?_
        refine zr_aload_n X d_L_law_19 rfl ?_
        refine zs_len S d_L_law_20 ?_
        refine zr_iconst (v := nI 4) X d_L_law_21 (by decide) ?_
        refine zr_isub (z := nI (L - 4)) X d_L_law_22 (pk_sub h4) ?_
        refine zr_icmp_gtt (tgt := 651) X d_L_law_23 rfl (nI_lt (by omega) (by omega)) ?_
        refine zr_iconst (v := 1) X d_L_law_651 (by decide) ?_
        exact zs_end S d_L_law_652 (by omega) (by omega)
      · skip
        show G k s0 18 [some (.ref bs), some (.ref (q 0)), some (.ref (q 10)), some (.int (nI i))] [] N q f
        refine zr_iload_n X d_L_law_18 rfl ?_
        refine zr_aload_n X d_L_law_19 rfl ?_
        refine zs_len S d_L_law_20 ?_
        refine zr_iconst (v := nI 4) X d_L_law_21 (by decide) ?_
        refine zr_isub (z := nI L - nI 4) X d_L_law_22 rfl ?_
        refine zr_icmp_gtt (tgt := 651) X d_L_law_23 rfl (Int32.lt_of_lt_of_le (pk_sneg (by decide) (by omega)) (nI_pos' (by omega))) ?_
        refine zr_iconst (v := 1) X d_L_law_651 (by decide) ?_
        exact zs_end S d_L_law_652 (by omega) (by omega)
end ZLoop
