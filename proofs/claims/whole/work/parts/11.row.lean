set_option maxRecDepth 100000 in
set_option maxHeartbeats 4000000 in
theorem c_R_hasPosition_y {l : Launch} {D : va_G} {cI cC cZ cV : ClassId} {N : Nat} {q : Nat → Nat} {f : zF} {j jc sz p : Nat} (hj : j < N) (hf : f j = .inr (iR, [.ref (q jc), .int (nI sz)])) (hs : sz < 2 ^ 31) (hp : p ≤ sz) : zC l y_R_hasPosition b_R_hasPosition 2 (some .boolean) (rmD 0 0 0) D (zty cI cC cZ cV) [.ref (q j), .int (nI p)] N q f (pRd N q f (nI 1)) := by
  refine zC.of (by decide) (by simp [Value.category]) (Nat.le_of_ble_eq_true rfl) (fun G X Y => ?_)
  show G 0 0 0 [some (.ref (q j)), some (.int (nI p))] [] N q f
  refine zr_iload_n X d_R_hasPosition_0 rfl ?_
  refine zr_if_ltf (tgt := 16) X d_R_hasPosition_1 rfl (nI_pos (by omega)) ?_
  refine zr_iload_n X d_R_hasPosition_4 rfl ?_
  refine zr_aload_n X d_R_hasPosition_5 rfl ?_
  refine zr_get X F_R_15 d_R_hasPosition_6 hj hf (v := .int (nI sz)) rfl ?_
  refine zr_icmp_gtf (tgt := 16) X d_R_hasPosition_9 rfl (nI_nlt hp hs) ?_
  refine zr_iconst (v := nI 1) X d_R_hasPosition_12 (by decide) ?_
  refine zr_goto (tgt := 17) X d_R_hasPosition_13 rfl ?_
  refine zr_ireturn Y d_R_hasPosition_17 rfl (Nat.le_of_ble_eq_true rfl) (Nat.le_of_ble_eq_true rfl) ?_
  exact ⟨rfl, rfl, rfl, rfl⟩

set_option maxRecDepth 100000 in
set_option maxHeartbeats 4000000 in
theorem c_R_hasPosition_n {l : Launch} {D : va_G} {cI cC cZ cV : ClassId} {N : Nat} {q : Nat → Nat} {f : zF} {j jc sz : Nat} {x : Int32} (hj : j < N) (hf : f j = .inr (iR, [.ref (q jc), .int (nI sz)])) (hx : zNo x sz) : zC l y_R_hasPosition b_R_hasPosition 2 (some .boolean) (rmD 0 0 0) D (zty cI cC cZ cV) [.ref (q j), .int x] N q f (pRd N q f (nI 0)) := by
  refine zC.of (by decide) (by simp [Value.category]) (Nat.le_of_ble_eq_true rfl) (fun G X Y => ?_)
  show G 0 0 0 [some (.ref (q j)), some (.int x)] [] N q f
  refine zr_iload_n X d_R_hasPosition_0 rfl ?_
  refine zr_if_lt (tgt := 16) X d_R_hasPosition_1 rfl (fun h1 => ?_) (fun h1 => ?_)
  · skip
    refine zr_iconst (v := nI 0) X d_R_hasPosition_16 (by decide) ?_
    refine zr_ireturn Y d_R_hasPosition_17 rfl (Nat.le_of_ble_eq_true rfl) (Nat.le_of_ble_eq_true rfl) ?_
    exact ⟨rfl, rfl, rfl, rfl⟩
  · skip
    refine zr_iload_n X d_R_hasPosition_4 rfl ?_
    refine zr_aload_n X d_R_hasPosition_5 rfl ?_
    refine zr_get X F_R_15 d_R_hasPosition_6 hj hf (v := .int (nI sz)) rfl ?_
    refine zr_icmp_gtt (tgt := 16) X d_R_hasPosition_9 rfl (hx.resolve_left h1) ?_
    refine zr_iconst (v := nI 0) X d_R_hasPosition_16 (by decide) ?_
    refine zr_ireturn Y d_R_hasPosition_17 rfl (Nat.le_of_ble_eq_true rfl) (Nat.le_of_ble_eq_true rfl) ?_
    exact ⟨rfl, rfl, rfl, rfl⟩

set_option maxRecDepth 100000 in
set_option maxHeartbeats 4000000 in
theorem c_R_hasStretch_y {l : Launch} {D : va_G} {cI cC cZ cV : ClassId} {N : Nat} {q : Nat → Nat} {f : zF} {j jc sz p c : Nat} (hj : j < N) (hf : f j = .inr (iR, [.ref (q jc), .int (nI sz)])) (hs : sz < 2 ^ 31) (hp : p + c ≤ sz) : zC l y_R_hasStretch b_R_hasStretch 3 (some .boolean) (rmD 1 0 0) D (zty cI cC cZ cV) [.ref (q j), .int (nI p), .int (nI c)] N q f (pRd N q f (nI 1)) := by
  refine zC.of (by decide) (by simp [Value.category]) (Nat.le_of_ble_eq_true rfl) (fun G X Y => ?_)
  show G 0 0 0 [some (.ref (q j)), some (.int (nI p)), some (.int (nI c))] [] N q f
  refine zr_aload_n X d_R_hasStretch_0 rfl ?_
  refine zr_iload_n X d_R_hasStretch_1 rfl ?_
  refine zr_callV X K_R_19 KI_R_19 KS_R_19 (c_R_hasPosition_y hj hf hs (by omega)) d_R_hasStretch_2 hj hf rfl rfl (by decide) (Nat.le_of_ble_eq_true rfl) (by decide) (st := []) rfl (kRd ?_)
  show G 0 0 5 [some (.ref (q j)), some (.int (nI p)), some (.int (nI c))] [.int (nI 1)] N q f
  refine zr_if_eqf (tgt := 26) X d_R_hasStretch_5 rfl (by decide) ?_
  refine zr_iload_n X d_R_hasStretch_8 rfl ?_
  refine zr_if_ltf (tgt := 26) X d_R_hasStretch_9 rfl (nI_pos (by omega)) ?_
  refine zr_iload_n X d_R_hasStretch_12 rfl ?_
  refine zr_aload_n X d_R_hasStretch_13 rfl ?_
  refine zr_get X F_R_15 d_R_hasStretch_14 hj hf (v := .int (nI sz)) rfl ?_
  refine zr_iload_n X d_R_hasStretch_17 rfl ?_
  refine zr_isub (z := nI (sz - p)) X d_R_hasStretch_18 (pk_sub (by omega)) ?_
  refine zr_icmp_gtf (tgt := 26) X d_R_hasStretch_19 rfl (nI_nlt (by omega) (by omega)) ?_
  refine zr_iconst (v := nI 1) X d_R_hasStretch_22 (by decide) ?_
  refine zr_goto (tgt := 27) X d_R_hasStretch_23 rfl ?_
  refine zr_ireturn Y d_R_hasStretch_27 rfl (Nat.le_of_ble_eq_true rfl) (Nat.le_of_ble_eq_true rfl) ?_
  exact ⟨rfl, rfl, rfl, rfl⟩

set_option maxRecDepth 100000 in
set_option maxHeartbeats 4000000 in
theorem c_R_hasStretch_n1 {l : Launch} {D : va_G} {cI cC cZ cV : ClassId} {N : Nat} {q : Nat → Nat} {f : zF} {j jc sz : Nat} {x y : Int32} (hj : j < N) (hf : f j = .inr (iR, [.ref (q jc), .int (nI sz)])) (hx : zNo x sz) : zC l y_R_hasStretch b_R_hasStretch 3 (some .boolean) (rmD 1 0 0) D (zty cI cC cZ cV) [.ref (q j), .int x, .int y] N q f (pRd N q f (nI 0)) := by
  refine zC.of (by decide) (by simp [Value.category]) (Nat.le_of_ble_eq_true rfl) (fun G X Y => ?_)
  show G 0 0 0 [some (.ref (q j)), some (.int x), some (.int y)] [] N q f
  refine zr_aload_n X d_R_hasStretch_0 rfl ?_
  refine zr_iload_n X d_R_hasStretch_1 rfl ?_
  refine zr_callV X K_R_19 KI_R_19 KS_R_19 (c_R_hasPosition_n hj hf hx) d_R_hasStretch_2 hj hf rfl rfl (by decide) (Nat.le_of_ble_eq_true rfl) (by decide) (st := []) rfl (kRd ?_)
  show G 0 0 5 [some (.ref (q j)), some (.int x), some (.int y)] [.int (nI 0)] N q f
  refine zr_if_eqt (tgt := 26) X d_R_hasStretch_5 rfl (by decide) ?_
  refine zr_iconst (v := nI 0) X d_R_hasStretch_26 (by decide) ?_
  refine zr_ireturn Y d_R_hasStretch_27 rfl (Nat.le_of_ble_eq_true rfl) (Nat.le_of_ble_eq_true rfl) ?_
  exact ⟨rfl, rfl, rfl, rfl⟩

set_option maxRecDepth 100000 in
set_option maxHeartbeats 4000000 in
theorem c_R_hasStretch_n2 {l : Launch} {D : va_G} {cI cC cZ cV : ClassId} {N : Nat} {q : Nat → Nat} {f : zF} {j jc sz p : Nat} {y : Int32} (hj : j < N) (hf : f j = .inr (iR, [.ref (q jc), .int (nI sz)])) (hs : sz < 2 ^ 31) (hp : p ≤ sz) (hy : zNo y (sz - p)) : zC l y_R_hasStretch b_R_hasStretch 3 (some .boolean) (rmD 1 0 0) D (zty cI cC cZ cV) [.ref (q j), .int (nI p), .int y] N q f (pRd N q f (nI 0)) := by
  refine zC.of (by decide) (by simp [Value.category]) (Nat.le_of_ble_eq_true rfl) (fun G X Y => ?_)
  show G 0 0 0 [some (.ref (q j)), some (.int (nI p)), some (.int y)] [] N q f
  refine zr_aload_n X d_R_hasStretch_0 rfl ?_
  refine zr_iload_n X d_R_hasStretch_1 rfl ?_
  refine zr_callV X K_R_19 KI_R_19 KS_R_19 (c_R_hasPosition_y hj hf hs hp) d_R_hasStretch_2 hj hf rfl rfl (by decide) (Nat.le_of_ble_eq_true rfl) (by decide) (st := []) rfl (kRd ?_)
  show G 0 0 5 [some (.ref (q j)), some (.int (nI p)), some (.int y)] [.int (nI 1)] N q f
  refine zr_if_eqf (tgt := 26) X d_R_hasStretch_5 rfl (by decide) ?_
  refine zr_iload_n X d_R_hasStretch_8 rfl ?_
  refine zr_if_lt (tgt := 26) X d_R_hasStretch_9 rfl (fun h9 => ?_) (fun h9 => ?_)
  · skip
    refine zr_iconst (v := nI 0) X d_R_hasStretch_26 (by decide) ?_
    refine zr_ireturn Y d_R_hasStretch_27 rfl (Nat.le_of_ble_eq_true rfl) (Nat.le_of_ble_eq_true rfl) ?_
    exact ⟨rfl, rfl, rfl, rfl⟩
  · skip
    refine zr_iload_n X d_R_hasStretch_12 rfl ?_
    refine zr_aload_n X d_R_hasStretch_13 rfl ?_
    refine zr_get X F_R_15 d_R_hasStretch_14 hj hf (v := .int (nI sz)) rfl ?_
    refine zr_iload_n X d_R_hasStretch_17 rfl ?_
    refine zr_isub (z := nI (sz - p)) X d_R_hasStretch_18 (pk_sub (by omega)) ?_
    refine zr_icmp_gtt (tgt := 26) X d_R_hasStretch_19 rfl (hy.resolve_left h9) ?_
    refine zr_iconst (v := nI 0) X d_R_hasStretch_26 (by decide) ?_
    refine zr_ireturn Y d_R_hasStretch_27 rfl (Nat.le_of_ble_eq_true rfl) (Nat.le_of_ble_eq_true rfl) ?_
    exact ⟨rfl, rfl, rfl, rfl⟩

theorem c_R_hasStretch_n {l : Launch} {D : va_G} {cI cC cZ cV : ClassId} {N : Nat} {q : Nat → Nat} {f : zF} {j jc sz : Nat} {x y : Int32} (hj : j < N) (hf : f j = .inr (iR, [.ref (q jc), .int (nI sz)])) (hs : sz < 2 ^ 31) (hx : zNoS x y sz) : zC l y_R_hasStretch b_R_hasStretch 3 (some .boolean) (rmD 1 0 0) D (zty cI cC cZ cV) [.ref (q j), .int x, .int y] N q f (pRd N q f (nI 0)) := by
  rcases hx with hx | ⟨p, hp, rfl, hy⟩
  · exact c_R_hasStretch_n1 hj hf hx
  · exact c_R_hasStretch_n2 hj hf hs hp hy

set_option maxRecDepth 100000 in
set_option maxHeartbeats 4000000 in
theorem c_R_pieceOf {l : Launch} {D : va_G} {cI cC cZ cV : ClassId} {N : Nat} {q : Nat → Nat} {f : zF} {j jc sz p c cap : Nat} {g : Nat → Int32} (hj : j < N) (hf : f j = .inr (iR, [.ref (q jc), .int (nI sz)])) (hjc : jc < N) (hfc : f jc = .inl (cC, cap, .inl g)) (hg : zCh g) (hcap : cap < 2 ^ 20) (hp : p + c ≤ cap) (hc : c ≤ 2000) : zC l y_R_pieceOf b_R_pieceOf 4 (some (.array .char)) (rmD 1 1 2000) D (zty cI cC cZ cV) [.ref (q j), .int (nI p), .int (nI c)] N q f (fun v N' q' f' => ∃ a, v = some (.ref a) ∧ N' = N + 1 ∧ q' = va_up q N a ∧ f' = va_up f N (.inl (cC, c, .inl (va_cpy g (fun _ => 0) p 0 c)))) := by
  refine zC.of (by decide) (by simp [Value.category]) (Nat.le_of_ble_eq_true rfl) (fun G X Y => ?_)
  show G 0 0 0 [some (.ref (q j)), some (.int (nI p)), some (.int (nI c)), none] [] N q f
  refine zr_iload_n X d_R_pieceOf_0 rfl ?_
  refine zr_newaC X 1 d_R_pieceOf_1 W_arrC rfl (by omega) (by decide) (by show 0 + c ≤ 2000; omega) (fun a => ?_)
  generalize hq' : va_up q N a = q'
  have hqj : q j = q' j := by rw [← hq', up_ne' (by omega)]
  have hqc : q jc = q' jc := by rw [← hq', up_ne' (by omega)]
  have hqN : a = q' N := by rw [← hq', up_eq]
  rw [hqc] at hf
  rw [hqj, hqN]
  show G (0 + 1) (0 + c) 3 [some (.ref (q' j)), some (.int (nI p)), some (.int (nI c)), none] [.ref (q' N)] (N + 1) q' (va_up f N (.inl (cC, c, .inl (fun _ => 0))))
  refine zr_astore_n (lv' := [some (.ref (q' j)), some (.int (nI p)), some (.int (nI c)), some (.ref (q' N))]) X d_R_pieceOf_3 (by decide) rfl ?_
  refine zr_aload_n X d_R_pieceOf_4 rfl ?_
  refine zr_get X F_R_9 d_R_pieceOf_5 (by omega) (up_ne (by omega) hf) (v := .ref (q' jc)) rfl ?_
  refine zr_iload_n X d_R_pieceOf_8 rfl ?_
  refine zr_aload_n X d_R_pieceOf_9 rfl ?_
  refine zr_iconst (v := nI 0) X d_R_pieceOf_10 (by decide) ?_
  refine zr_iload_n X d_R_pieceOf_11 rfl ?_
  refine zr_copy X AC_R_23 1 d_R_pieceOf_12 (by omega) (by omega) (up_ne (by omega) hfc) up_eq rfl (by omega) (by omega) (by omega) (by omega) (fun i _ => hg _) (by decide) (Nat.le_of_ble_eq_true rfl) ?_
  refine zr_aload_n X d_R_pieceOf_15 rfl ?_
  refine zr_areturn Y d_R_pieceOf_16 (Or.inr ⟨_, rfl⟩) (Or.inr ⟨_, rfl⟩) (Nat.le_of_ble_eq_true rfl) (by show 0 + c ≤ 2000; omega) ?_
  exact ⟨a, by rw [hqN], rfl, hq'.symm, bx_uu _ _ _ _⟩

def zopen (g gp : Nat → Int32) (p c sz : Nat) : Nat → Int32 := va_cpy gp (va_cpy g g p (p + c) (sz - p)) 0 p c
def zclose (g : Nat → Int32) (p c sz : Nat) : Nat → Int32 := va_cpy g g (p + c) p (sz - (p + c))

set_option maxRecDepth 100000 in
set_option maxHeartbeats 4000000 in
theorem c_R_open {l : Launch} {D : va_G} {cI cC cZ cV : ClassId} {N : Nat} {q : Nat → Nat} {f : zF} {j jc jp sz p c cap : Nat} {g gp : Nat → Int32} (hj : j < N) (hf : f j = .inr (iR, [.ref (q jc), .int (nI sz)])) (hjc : jc < N) (hfc : f jc = .inl (cC, cap, .inl g)) (hjp : jp < N) (hfp : f jp = .inl (cC, c, .inl gp)) (n1 : j ≠ jc) (n2 : jp ≠ jc) (n3 : j ≠ jp) (hg : zCh g) (hgp : zCh gp) (hcap : cap < 2 ^ 20) (hp : p ≤ sz) (hc : sz + c ≤ cap) : zC l y_R_open b_R_open 3 none (rmD 1 0 0) D (zty cI cC cZ cV) [.ref (q j), .int (nI p), .ref (q jp)] N q f (pW N q (va_up (va_up f jc (.inl (cC, cap, .inl (zopen g gp p c sz)))) j (.inr (iR, [.ref (q jc), .int (nI (sz + c))])))) := by
  refine zC.of (by decide) (by simp [Value.category]) (Nat.le_of_ble_eq_true rfl) (fun G X Y => ?_)
  show G 0 0 0 [some (.ref (q j)), some (.int (nI p)), some (.ref (q jp))] [] N q f
  refine zr_aload_n X d_R_open_0 rfl ?_
  refine zr_get X F_R_9 d_R_open_1 (by omega) hf (v := .ref (q jc)) rfl ?_
  refine zr_iload_n X d_R_open_4 rfl ?_
  refine zr_aload_n X d_R_open_5 rfl ?_
  refine zr_get X F_R_9 d_R_open_6 (by omega) hf (v := .ref (q jc)) rfl ?_
  refine zr_iload_n X d_R_open_9 rfl ?_
  refine zr_aload_n X d_R_open_10 rfl ?_
  refine zr_alen X 1 d_R_open_11 (by omega) hfp rfl ?_
  refine zr_iadd (z := nI (p + c)) X d_R_open_12 (nI_add _ _) ?_
  refine zr_aload_n X d_R_open_13 rfl ?_
  refine zr_get X F_R_15 d_R_open_14 (by omega) hf (v := .int (nI sz)) rfl ?_
  refine zr_iload_n X d_R_open_17 rfl ?_
  refine zr_isub (z := nI (sz - p)) X d_R_open_18 (pk_sub (by omega)) ?_
  refine zr_copy X AC_R_23 1 d_R_open_19 (by omega) (by omega) hfc hfc rfl (by omega) (by omega) (by omega) (by omega) (fun i _ => hg _) (by decide) (Nat.le_of_ble_eq_true rfl) ?_
  refine zr_aload_n X d_R_open_22 rfl ?_
  refine zr_iconst (v := nI 0) X d_R_open_23 (by decide) ?_
  refine zr_aload_n X d_R_open_24 rfl ?_
  refine zr_get X F_R_9 d_R_open_25 (by omega) (up_ne (by omega) hf) (v := .ref (q jc)) rfl ?_
  refine zr_iload_n X d_R_open_28 rfl ?_
  refine zr_aload_n X d_R_open_29 rfl ?_
  refine zr_alen X 1 d_R_open_30 (by omega) (up_ne (by omega) hfp) rfl ?_
  refine zr_copy X AC_R_23 1 d_R_open_31 (by omega) (by omega) (up_ne (by omega) hfp) up_eq rfl (by omega) (by omega) (by omega) (by omega) (fun i _ => hgp _) (by decide) (Nat.le_of_ble_eq_true rfl) ?_
  refine zr_aload_n X d_R_open_34 rfl ?_
  refine zr_dup X d_R_open_35 rfl ?_
  refine zr_get X F_R_15 d_R_open_36 (by omega) (up_ne (by omega) (up_ne (by omega) hf)) (v := .int (nI sz)) rfl ?_
  refine zr_aload_n X d_R_open_39 rfl ?_
  refine zr_alen X 1 d_R_open_40 (by omega) (up_ne (by omega) (up_ne (by omega) hfp)) rfl ?_
  refine zr_iadd (z := nI (sz + c)) X d_R_open_41 (nI_add _ _) ?_
  refine zr_put (fs' := [.ref (q jc), .int (nI (sz + c))]) X F_R_15 d_R_open_42 (by omega) (up_ne (by omega) (up_ne (by omega) hf)) rfl rfl (Nat.le_of_ble_eq_true rfl) rfl ?_
  refine zr_return Y d_R_open_45 (Nat.le_of_ble_eq_true rfl) (Nat.le_of_ble_eq_true rfl) ?_
  exact ⟨rfl, rfl, rfl, by rw [bx_uu]; rfl⟩

set_option maxRecDepth 100000 in
set_option maxHeartbeats 4000000 in
theorem c_R_close {l : Launch} {D : va_G} {cI cC cZ cV : ClassId} {N : Nat} {q : Nat → Nat} {f : zF} {j jc sz p c cap : Nat} {g : Nat → Int32} (hj : j < N) (hf : f j = .inr (iR, [.ref (q jc), .int (nI sz)])) (hjc : jc < N) (hfc : f jc = .inl (cC, cap, .inl g)) (n1 : j ≠ jc) (hg : zCh g) (hcap : cap < 2 ^ 20) (hp : p + c ≤ sz) (hc : sz ≤ cap) : zC l y_R_close b_R_close 4 none (rmD 1 0 0) D (zty cI cC cZ cV) [.ref (q j), .int (nI p), .int (nI c)] N q f (pW N q (va_up (va_up f jc (.inl (cC, cap, .inl (zclose g p c sz)))) j (.inr (iR, [.ref (q jc), .int (nI (sz - c))])))) := by
  refine zC.of (by decide) (by simp [Value.category]) (Nat.le_of_ble_eq_true rfl) (fun G X Y => ?_)
  show G 0 0 0 [some (.ref (q j)), some (.int (nI p)), some (.int (nI c)), none] [] N q f
  refine zr_iload_n X d_R_close_0 rfl ?_
  refine zr_iload_n X d_R_close_1 rfl ?_
  refine zr_iadd (z := nI (p + c)) X d_R_close_2 (nI_add _ _) ?_
  refine zr_istore_n (lv' := [some (.ref (q j)), some (.int (nI p)), some (.int (nI c)), some (.int (nI (p + c)))]) X d_R_close_3 (by decide) rfl ?_
  refine zr_aload_n X d_R_close_4 rfl ?_
  refine zr_get X F_R_9 d_R_close_5 (by omega) hf (v := .ref (q jc)) rfl ?_
  refine zr_iload_n X d_R_close_8 rfl ?_
  refine zr_aload_n X d_R_close_9 rfl ?_
  refine zr_get X F_R_9 d_R_close_10 (by omega) hf (v := .ref (q jc)) rfl ?_
  refine zr_iload_n X d_R_close_13 rfl ?_
  refine zr_aload_n X d_R_close_14 rfl ?_
  refine zr_get X F_R_15 d_R_close_15 (by omega) hf (v := .int (nI sz)) rfl ?_
  refine zr_iload_n X d_R_close_18 rfl ?_
  refine zr_isub (z := nI (sz - (p + c))) X d_R_close_19 (pk_sub (by omega)) ?_
  refine zr_copy X AC_R_23 1 d_R_close_20 (by omega) (by omega) hfc hfc rfl (by omega) (by omega) (by omega) (by omega) (fun i _ => hg _) (by decide) (Nat.le_of_ble_eq_true rfl) ?_
  refine zr_aload_n X d_R_close_23 rfl ?_
  refine zr_dup X d_R_close_24 rfl ?_
  refine zr_get X F_R_15 d_R_close_25 (by omega) (up_ne (by omega) hf) (v := .int (nI sz)) rfl ?_
  refine zr_iload_n X d_R_close_28 rfl ?_
  refine zr_isub (z := nI (sz - c)) X d_R_close_29 (pk_sub (by omega)) ?_
  refine zr_put (fs' := [.ref (q jc), .int (nI (sz - c))]) X F_R_15 d_R_close_30 (by omega) (up_ne (by omega) hf) rfl rfl (Nat.le_of_ble_eq_true rfl) rfl ?_
  refine zr_return Y d_R_close_33 (Nat.le_of_ble_eq_true rfl) (Nat.le_of_ble_eq_true rfl) ?_
  exact ⟨rfl, rfl, rfl, rfl⟩

set_option maxRecDepth 100000 in
set_option maxHeartbeats 4000000 in
theorem c_R_newlinesBefore {l : Launch} {D : va_G} {cI cC cZ cV : ClassId} {N : Nat} {q : Nat → Nat} {f : zF} {j jc sz p cap : Nat} {g : Nat → Int32} (hj : j < N) (hf : f j = .inr (iR, [.ref (q jc), .int (nI sz)])) (hjc : jc < N) (hfc : f jc = .inl (cC, cap, .inl g)) (hcap : cap < 2 ^ 20) (hp : p ≤ cap) : zC l y_R_newlinesBefore b_R_newlinesBefore 4 (some .int) (rmD 0 0 0) D (zty cI cC cZ cV) [.ref (q j), .int (nI p)] N q f (pRd N q f (nI (znl g p))) := by
  refine zC.of (by decide) (by simp [Value.category]) (Nat.le_of_ble_eq_true rfl) (fun G X Y => ?_)
  show G 0 0 0 [some (.ref (q j)), some (.int (nI p)), none, none] [] N q f
  have loop : ∀ (d i : Nat), i + d = p → G 0 0 4 [some (.ref (q j)), some (.int (nI p)), some (.int (nI (znl g i))), some (.int (nI i))] [] N q f := by
    intro d
    induction d with
    | zero =>
      intro i hi
      show G 0 0 4 [some (.ref (q j)), some (.int (nI p)), some (.int (nI (znl g i))), some (.int (nI i))] [] N q f
      refine zr_iload_n X d_R_newlinesBefore_4 rfl ?_
      refine zr_iload_n X d_R_newlinesBefore_5 rfl ?_
      refine zr_icmp_get (tgt := 29) X d_R_newlinesBefore_6 rfl (nI_le (by omega) (by omega)) ?_
      refine zr_iload_n X d_R_newlinesBefore_29 rfl ?_
      refine zr_ireturn Y d_R_newlinesBefore_30 rfl (Nat.le_of_ble_eq_true rfl) (Nat.le_of_ble_eq_true rfl) ?_
      exact ⟨by rw [show i = p by omega], rfl, rfl, rfl⟩
    | succ d ih =>
      intro i hi
      show G 0 0 4 [some (.ref (q j)), some (.int (nI p)), some (.int (nI (znl g i))), some (.int (nI i))] [] N q f
      refine zr_iload_n X d_R_newlinesBefore_4 rfl ?_
      refine zr_iload_n X d_R_newlinesBefore_5 rfl ?_
      refine zr_icmp_gef (tgt := 29) X d_R_newlinesBefore_6 rfl (nI_ge (by omega) (by omega)) ?_
      refine zr_aload_n X d_R_newlinesBefore_9 rfl ?_
      refine zr_get X F_R_9 d_R_newlinesBefore_10 (by omega) hf (v := .ref (q jc)) rfl ?_
      refine zr_iload_n X d_R_newlinesBefore_13 rfl ?_
      refine zr_caload (v := g i) X 1 d_R_newlinesBefore_14 (by omega) hfc rfl (by omega) (by omega) rfl ?_
      refine zr_bipush (v := 10) X d_R_newlinesBefore_15 (by decide) ?_
      refine zr_icmp_ne (tgt := 23) X d_R_newlinesBefore_17 rfl (fun h17 => ?_) (fun h17 => ?_)
      · skip
        refine zr_iinc (v := nI (i + 1)) (lv' := [some (.ref (q j)), some (.int (nI p)), some (.int (nI (znl g i))), some (.int (nI (i + 1)))]) X d_R_newlinesBefore_23 rfl (nI_1 _) (by decide) rfl ?_
        refine zr_goto (tgt := 4) X d_R_newlinesBefore_26 rfl ?_
        have h9 := ih (i + 1) (by omega)
        rw [znl_no h17] at h9
        exact h9
      · skip
        refine zr_iinc (v := nI (znl g i + 1)) (lv' := [some (.ref (q j)), some (.int (nI p)), some (.int (nI (znl g i + 1))), some (.int (nI i))]) X d_R_newlinesBefore_20 rfl (nI_1 _) (by decide) rfl ?_
        refine zr_iinc (v := nI (i + 1)) (lv' := [some (.ref (q j)), some (.int (nI p)), some (.int (nI (znl g i + 1))), some (.int (nI (i + 1)))]) X d_R_newlinesBefore_23 rfl (nI_1 _) (by decide) rfl ?_
        refine zr_goto (tgt := 4) X d_R_newlinesBefore_26 rfl ?_
        have h9 := ih (i + 1) (by omega)
        rw [znl_nl h17] at h9
        exact h9
  refine zr_iconst (v := nI 0) X d_R_newlinesBefore_0 (by decide) ?_
  refine zr_istore_n (lv' := [some (.ref (q j)), some (.int (nI p)), some (.int (nI 0)), none]) X d_R_newlinesBefore_1 (by decide) rfl ?_
  refine zr_iconst (v := nI 0) X d_R_newlinesBefore_2 (by decide) ?_
  refine zr_istore_n (lv' := [some (.ref (q j)), some (.int (nI p)), some (.int (nI 0)), some (.int (nI 0))]) X d_R_newlinesBefore_3 (by decide) rfl ?_
  exact loop p 0 (by omega)

/-- where line k starts: r is the least position with k newlines before it, or -1 -/
def zLS (g : Nat → Int32) (sz k : Nat) (r : Int32) : Prop := (∃ p, p ≤ sz ∧ r = nI p ∧ znl g p = k ∧ ∀ p', p' < p → znl g p' ≠ k) ∨ (r = -1 ∧ ∀ p, p ≤ sz → znl g p ≠ k)

set_option maxRecDepth 100000 in
set_option maxHeartbeats 4000000 in
theorem c_R_behindNewline {l : Launch} {D : va_G} {cI cC cZ cV : ClassId} {N : Nat} {q : Nat → Nat} {f : zF} {j jc sz k cap : Nat} {g : Nat → Int32} (hj : j < N) (hf : f j = .inr (iR, [.ref (q jc), .int (nI sz)])) (hjc : jc < N) (hfc : f jc = .inl (cC, cap, .inl g)) (hcap : cap < 2 ^ 20) (hs : sz ≤ cap) (hk : 0 < k) (hk2 : k < 2 ^ 31) : zC l y_R_behindNewline b_R_behindNewline 4 (some .int) (rmD 0 0 0) D (zty cI cC cZ cV) [.ref (q j), .int (nI k)] N q f (pI N q (fun r f' => f' = f ∧ zLS g sz k r)) := by
  refine zC.of (by decide) (by simp [Value.category]) (Nat.le_of_ble_eq_true rfl) (fun G X Y => ?_)
  show G 0 0 0 [some (.ref (q j)), some (.int (nI k)), none, none] [] N q f
  have loop : ∀ (d i : Nat), i + d = sz → znl g i < k → G 0 0 4 [some (.ref (q j)), some (.int (nI k)), some (.int (nI (znl g i))), some (.int (nI i))] [] N q f := by
    intro d
    induction d with
    | zero =>
      intro i hi hk
      show G 0 0 4 [some (.ref (q j)), some (.int (nI k)), some (.int (nI (znl g i))), some (.int (nI i))] [] N q f
      refine zr_iload_n X d_R_behindNewline_4 rfl ?_
      refine zr_aload_n X d_R_behindNewline_5 rfl ?_
      refine zr_get X F_R_15 d_R_behindNewline_6 (by omega) hf (v := .int (nI sz)) rfl ?_
      refine zr_icmp_get (tgt := 41) X d_R_behindNewline_9 rfl (nI_le (by omega) (by omega)) ?_
      refine zr_iconst (v := (-1)) X d_R_behindNewline_41 (by decide) ?_
      refine zr_ireturn Y d_R_behindNewline_42 rfl (Nat.le_of_ble_eq_true rfl) (Nat.le_of_ble_eq_true rfl) ?_
      refine ⟨_, rfl, rfl, rfl, rfl, Or.inr ⟨rfl, fun p9 hp9 => ?_⟩⟩
      have h9 := znl_mono g (show p9 ≤ i by omega)
      omega
    | succ d ih =>
      intro i hi hk
      show G 0 0 4 [some (.ref (q j)), some (.int (nI k)), some (.int (nI (znl g i))), some (.int (nI i))] [] N q f
      have hzi := znl_le g i
      refine zr_iload_n X d_R_behindNewline_4 rfl ?_
      refine zr_aload_n X d_R_behindNewline_5 rfl ?_
      refine zr_get X F_R_15 d_R_behindNewline_6 (by omega) hf (v := .int (nI sz)) rfl ?_
      refine zr_icmp_gef (tgt := 41) X d_R_behindNewline_9 rfl (nI_ge (by omega) (by omega)) ?_
      refine zr_aload_n X d_R_behindNewline_12 rfl ?_
      refine zr_get X F_R_9 d_R_behindNewline_13 (by omega) hf (v := .ref (q jc)) rfl ?_
      refine zr_iload_n X d_R_behindNewline_16 rfl ?_
      refine zr_caload (v := g i) X 1 d_R_behindNewline_17 (by omega) hfc rfl (by omega) (by omega) rfl ?_
      refine zr_bipush (v := 10) X d_R_behindNewline_18 (by decide) ?_
      refine zr_icmp_ne (tgt := 35) X d_R_behindNewline_20 rfl (fun h20 => ?_) (fun h20 => ?_)
      · skip
        refine zr_iinc (v := nI (i + 1)) (lv' := [some (.ref (q j)), some (.int (nI k)), some (.int (nI (znl g i))), some (.int (nI (i + 1)))]) X d_R_behindNewline_35 rfl (nI_1 _) (by decide) rfl ?_
        refine zr_goto (tgt := 4) X d_R_behindNewline_38 rfl ?_
        have h9 := ih (i + 1) (by omega) (by rw [znl_no h20]; exact hk)
        rw [znl_no h20] at h9
        exact h9
      · skip
        refine zr_iinc (v := nI (znl g i + 1)) (lv' := [some (.ref (q j)), some (.int (nI k)), some (.int (nI (znl g i + 1))), some (.int (nI i))]) X d_R_behindNewline_23 rfl (nI_1 _) (by decide) rfl ?_
        refine zr_iload_n X d_R_behindNewline_26 rfl ?_
        refine zr_iload_n X d_R_behindNewline_27 rfl ?_
        refine zr_icmp_ne (tgt := 35) X d_R_behindNewline_28 rfl (fun h28 => ?_) (fun h28 => ?_)
        · skip
          refine zr_iinc (v := nI (i + 1)) (lv' := [some (.ref (q j)), some (.int (nI k)), some (.int (nI (znl g i + 1))), some (.int (nI (i + 1)))]) X d_R_behindNewline_35 rfl (nI_1 _) (by decide) rfl ?_
          refine zr_goto (tgt := 4) X d_R_behindNewline_38 rfl ?_
          have h9 := ih (i + 1) (by omega) (by rw [znl_nl h20]; exact Nat.lt_of_le_of_ne hk (fun h8 => h28 (by rw [h8])))
          rw [znl_nl h20] at h9
          exact h9
        · skip
          refine zr_iload_n X d_R_behindNewline_31 rfl ?_
          refine zr_iconst (v := nI 1) X d_R_behindNewline_32 (by decide) ?_
          refine zr_iadd (z := nI (i + 1)) X d_R_behindNewline_33 (nI_add _ _) ?_
          refine zr_ireturn Y d_R_behindNewline_34 rfl (Nat.le_of_ble_eq_true rfl) (Nat.le_of_ble_eq_true rfl) ?_
          have h8 : znl g i + 1 = k := (nI_eq (by omega) (by omega)).mp h28
          refine ⟨_, rfl, rfl, rfl, rfl, Or.inl ⟨i + 1, by omega, rfl, by rw [znl_nl h20]; exact h8, fun p9 hp9 => ?_⟩⟩
          have h9 := znl_mono g (show p9 ≤ i by omega)
          omega
  refine zr_iconst (v := nI 0) X d_R_behindNewline_0 (by decide) ?_
  refine zr_istore_n (lv' := [some (.ref (q j)), some (.int (nI k)), some (.int (nI 0)), none]) X d_R_behindNewline_1 (by decide) rfl ?_
  refine zr_iconst (v := nI 0) X d_R_behindNewline_2 (by decide) ?_
  refine zr_istore_n (lv' := [some (.ref (q j)), some (.int (nI k)), some (.int (nI 0)), some (.int (nI 0))]) X d_R_behindNewline_3 (by decide) rfl ?_
  exact loop sz 0 (by omega) hk

set_option maxRecDepth 100000 in
set_option maxHeartbeats 4000000 in
theorem c_R_readsAt {l : Launch} {D : va_G} {cI cC cZ cV : ClassId} {N : Nat} {q : Nat → Nat} {f : zF} {j jc sz j2 jc2 k p cap cap2 : Nat} {g g2 : Nat → Int32} (hj : j < N) (hf : f j = .inr (iR, [.ref (q jc), .int (nI sz)])) (hjc : jc < N) (hfc : f jc = .inl (cC, cap, .inl g)) (hj2 : j2 < N) (hf2 : f j2 = .inr (iR, [.ref (q jc2), .int (nI k)])) (hjc2 : jc2 < N) (hfc2 : f jc2 = .inl (cC, cap2, .inl g2)) (hcap : cap < 2 ^ 20) (hcap2 : cap2 < 2 ^ 20) (hp : p + k ≤ cap) (hk : k ≤ cap2) : zC l y_R_readsAt b_R_readsAt 4 (some .boolean) (rmD 0 0 0) D (zty cI cC cZ cV) [.ref (q j), .int (nI p), .ref (q j2)] N q f (pI N q (fun r f' => f' = f ∧ ((r = nI 1 ∧ ∀ a, a < k → g (p + a) = g2 a) ∨ (r = nI 0 ∧ ∃ a, a < k ∧ ¬ g (p + a) = g2 a)))) := by
  refine zC.of (by decide) (by simp [Value.category]) (Nat.le_of_ble_eq_true rfl) (fun G X Y => ?_)
  show G 0 0 0 [some (.ref (q j)), some (.int (nI p)), some (.ref (q j2)), none] [] N q f
  have loop : ∀ (d i : Nat), i + d = k → (∀ a, a < i → g (p + a) = g2 a) → G 0 0 2 [some (.ref (q j)), some (.int (nI p)), some (.ref (q j2)), some (.int (nI i))] [] N q f := by
    intro d
    induction d with
    | zero =>
      intro i hi hk
      show G 0 0 2 [some (.ref (q j)), some (.int (nI p)), some (.ref (q j2)), some (.int (nI i))] [] N q f
      refine zr_iload_n X d_R_readsAt_2 rfl ?_
      refine zr_aload_n X d_R_readsAt_3 rfl ?_
      refine zr_get X F_R_15 d_R_readsAt_4 (by omega) hf2 (v := .int (nI k)) rfl ?_
      refine zr_icmp_get (tgt := 35) X d_R_readsAt_7 rfl (nI_le (by omega) (by omega)) ?_
      refine zr_iconst (v := nI 1) X d_R_readsAt_35 (by decide) ?_
      refine zr_ireturn Y d_R_readsAt_36 rfl (Nat.le_of_ble_eq_true rfl) (Nat.le_of_ble_eq_true rfl) ?_
      exact ⟨_, rfl, rfl, rfl, rfl, Or.inl ⟨rfl, fun a ha => hk a (by omega)⟩⟩
    | succ d ih =>
      intro i hi hk
      show G 0 0 2 [some (.ref (q j)), some (.int (nI p)), some (.ref (q j2)), some (.int (nI i))] [] N q f
      refine zr_iload_n X d_R_readsAt_2 rfl ?_
      refine zr_aload_n X d_R_readsAt_3 rfl ?_
      refine zr_get X F_R_15 d_R_readsAt_4 (by omega) hf2 (v := .int (nI k)) rfl ?_
      refine zr_icmp_gef (tgt := 35) X d_R_readsAt_7 rfl (nI_ge (by omega) (by omega)) ?_
      refine zr_aload_n X d_R_readsAt_10 rfl ?_
      refine zr_get X F_R_9 d_R_readsAt_11 (by omega) hf (v := .ref (q jc)) rfl ?_
      refine zr_iload_n X d_R_readsAt_14 rfl ?_
      refine zr_iload_n X d_R_readsAt_15 rfl ?_
      refine zr_iadd (z := nI (p + i)) X d_R_readsAt_16 (nI_add _ _) ?_
      refine zr_caload (v := g (p + i)) X 1 d_R_readsAt_17 (by omega) hfc rfl (by omega) (by omega) rfl ?_
      refine zr_aload_n X d_R_readsAt_18 rfl ?_
      refine zr_get X F_R_9 d_R_readsAt_19 (by omega) hf2 (v := .ref (q jc2)) rfl ?_
      refine zr_iload_n X d_R_readsAt_22 rfl ?_
      refine zr_caload (v := g2 i) X 1 d_R_readsAt_23 (by omega) hfc2 rfl (by omega) (by omega) rfl ?_
      refine zr_icmp_eq (tgt := 29) X d_R_readsAt_24 rfl (fun h24 => ?_) (fun h24 => ?_)
      · skip
        refine zr_iinc (v := nI (i + 1)) (lv' := [some (.ref (q j)), some (.int (nI p)), some (.ref (q j2)), some (.int (nI (i + 1)))]) X d_R_readsAt_29 rfl (nI_1 _) (by decide) rfl ?_
        refine zr_goto (tgt := 2) X d_R_readsAt_32 rfl ?_
        exact ih (i + 1) (by omega) (lt_s hk h24)
      · skip
        refine zr_iconst (v := nI 0) X d_R_readsAt_27 (by decide) ?_
        refine zr_ireturn Y d_R_readsAt_28 rfl (Nat.le_of_ble_eq_true rfl) (Nat.le_of_ble_eq_true rfl) ?_
        exact ⟨_, rfl, rfl, rfl, rfl, Or.inr ⟨rfl, i, by omega, h24⟩⟩
  refine zr_iconst (v := nI 0) X d_R_readsAt_0 (by decide) ?_
  refine zr_istore_n (lv' := [some (.ref (q j)), some (.int (nI p)), some (.ref (q j2)), some (.int (nI 0))]) X d_R_readsAt_1 (by decide) rfl ?_
  exact loop k 0 (by omega) (fun a ha => absurd ha (Nat.not_lt_zero a))
