theorem zbi_n {b : Bool} : narrow .boolean (.int (zbi b)) = .int (zbi b) := by cases b <;> rfl
theorem zbi_f {b : Bool} : fits .boolean (.int (zbi b)) = true := by cases b <;> rfl

set_option maxRecDepth 100000 in
set_option maxHeartbeats 4000000 in
theorem c_V_init_null {l : Launch} {D : va_G} {cI cC cZ cV : ClassId} {N : Nat} {q : Nat → Nat} {f : zF} {j num p jp : Nat} {b : Bool} (hj : j < N) (hf : f j = .inr (iV, [.int 0, .null, .int 0, .int 0, .null, .int 0, .null])) : zC l y_V_init b_V_init 6 none (rmD 1 0 0) D (zty cI cC cZ cV) [.ref (q j), .int (nI num), .null, .int (zbi b), .int (nI p), .ref (q jp)] N q f (pW N q (va_up f j (zver q num (.null) (zbi b) p jp 0 .null))) := by
  refine zC.of (by decide) (by simp [Value.category]) (Nat.le_of_ble_eq_true rfl) (fun G X Y => ?_)
  show G 0 0 0 [some (.ref (q j)), some (.int (nI num)), some (.null), some (.int (zbi b)), some (.int (nI p)), some (.ref (q jp))] [] N q f
  refine zr_aload_n X d_V_init_0 rfl ?_
  refine zr_objInit X OI_V_1 d_V_init_1 (by decide) (Nat.le_of_ble_eq_true rfl) ?_
  refine zr_aload_n X d_V_init_4 rfl ?_
  refine zr_iload_n X d_V_init_5 rfl ?_
  refine zr_putF (fs' := [.int (nI num), .null, .int 0, .int 0, .null, .int 0, .null]) X F_V_7 rfl d_V_init_6 hj hf rfl rfl (Nat.le_of_ble_eq_true rfl) rfl ?_
  refine zr_aload_n X d_V_init_9 rfl ?_
  refine zr_aload_nN X d_V_init_10 rfl ?_
  refine zr_putF (fs' := [.int (nI num), .null, .int 0, .int 0, .null, .int 0, .null]) X F_V_13 rfl d_V_init_11 hj up_eq rfl rfl (Nat.le_of_ble_eq_true rfl) rfl ?_
  refine zr_aload_n X d_V_init_14 rfl ?_
  refine zr_iload_n X d_V_init_15 rfl ?_
  refine zr_putF (fs' := [.int (nI num), .null, .int (zbi b), .int 0, .null, .int 0, .null]) X F_V_17 rfl d_V_init_16 hj up_eq zbi_n zbi_f (Nat.le_of_ble_eq_true rfl) rfl ?_
  refine zr_aload_n X d_V_init_19 rfl ?_
  refine zr_iload X d_V_init_20 rfl ?_
  refine zr_putF (fs' := [.int (nI num), .null, .int (zbi b), .int (nI p), .null, .int 0, .null]) X F_V_21 rfl d_V_init_22 hj up_eq rfl rfl (Nat.le_of_ble_eq_true rfl) rfl ?_
  refine zr_aload_n X d_V_init_25 rfl ?_
  refine zr_aload X d_V_init_26 rfl ?_
  refine zr_putF (fs' := [.int (nI num), .null, .int (zbi b), .int (nI p), .ref (q jp), .int 0, .null]) X F_V_24 rfl d_V_init_28 hj up_eq rfl rfl (Nat.le_of_ble_eq_true rfl) rfl ?_
  refine zr_aload_n X d_V_init_31 rfl ?_
  refine zr_iconst (v := nI 0) X d_V_init_32 (by decide) ?_
  refine zr_put (fs' := [.int (nI num), .null, .int (zbi b), .int (nI p), .ref (q jp), .int (nI 0), .null]) X F_V_28 d_V_init_33 hj up_eq rfl rfl (Nat.le_of_ble_eq_true rfl) rfl ?_
  refine zr_aload_n X d_V_init_36 rfl ?_
  refine zr_null X d_V_init_37 ?_
  refine zr_put (fs' := [.int (nI num), .null, .int (zbi b), .int (nI p), .ref (q jp), .int (nI 0), .null]) X F_V_31 d_V_init_38 hj up_eq rfl rfl (Nat.le_of_ble_eq_true rfl) rfl ?_
  refine zr_return Y d_V_init_41 (Nat.le_of_ble_eq_true rfl) (Nat.le_of_ble_eq_true rfl) ?_
  exact ⟨rfl, rfl, rfl, by simp only [bx_uu]⟩

set_option maxRecDepth 100000 in
set_option maxHeartbeats 4000000 in
theorem c_V_init_ref {l : Launch} {D : va_G} {cI cC cZ cV : ClassId} {N : Nat} {q : Nat → Nat} {f : zF} {j num p jp : Nat} {b : Bool} {x : Nat} (hj : j < N) (hf : f j = .inr (iV, [.int 0, .null, .int 0, .int 0, .null, .int 0, .null])) : zC l y_V_init b_V_init 6 none (rmD 1 0 0) D (zty cI cC cZ cV) [.ref (q j), .int (nI num), .ref x, .int (zbi b), .int (nI p), .ref (q jp)] N q f (pW N q (va_up f j (zver q num (.ref x) (zbi b) p jp 0 .null))) := by
  refine zC.of (by decide) (by simp [Value.category]) (Nat.le_of_ble_eq_true rfl) (fun G X Y => ?_)
  show G 0 0 0 [some (.ref (q j)), some (.int (nI num)), some (.ref x), some (.int (zbi b)), some (.int (nI p)), some (.ref (q jp))] [] N q f
  refine zr_aload_n X d_V_init_0 rfl ?_
  refine zr_objInit X OI_V_1 d_V_init_1 (by decide) (Nat.le_of_ble_eq_true rfl) ?_
  refine zr_aload_n X d_V_init_4 rfl ?_
  refine zr_iload_n X d_V_init_5 rfl ?_
  refine zr_putF (fs' := [.int (nI num), .null, .int 0, .int 0, .null, .int 0, .null]) X F_V_7 rfl d_V_init_6 hj hf rfl rfl (Nat.le_of_ble_eq_true rfl) rfl ?_
  refine zr_aload_n X d_V_init_9 rfl ?_
  refine zr_aload_n X d_V_init_10 rfl ?_
  refine zr_putF (fs' := [.int (nI num), .ref x, .int 0, .int 0, .null, .int 0, .null]) X F_V_13 rfl d_V_init_11 hj up_eq rfl rfl (Nat.le_of_ble_eq_true rfl) rfl ?_
  refine zr_aload_n X d_V_init_14 rfl ?_
  refine zr_iload_n X d_V_init_15 rfl ?_
  refine zr_putF (fs' := [.int (nI num), .ref x, .int (zbi b), .int 0, .null, .int 0, .null]) X F_V_17 rfl d_V_init_16 hj up_eq zbi_n zbi_f (Nat.le_of_ble_eq_true rfl) rfl ?_
  refine zr_aload_n X d_V_init_19 rfl ?_
  refine zr_iload X d_V_init_20 rfl ?_
  refine zr_putF (fs' := [.int (nI num), .ref x, .int (zbi b), .int (nI p), .null, .int 0, .null]) X F_V_21 rfl d_V_init_22 hj up_eq rfl rfl (Nat.le_of_ble_eq_true rfl) rfl ?_
  refine zr_aload_n X d_V_init_25 rfl ?_
  refine zr_aload X d_V_init_26 rfl ?_
  refine zr_putF (fs' := [.int (nI num), .ref x, .int (zbi b), .int (nI p), .ref (q jp), .int 0, .null]) X F_V_24 rfl d_V_init_28 hj up_eq rfl rfl (Nat.le_of_ble_eq_true rfl) rfl ?_
  refine zr_aload_n X d_V_init_31 rfl ?_
  refine zr_iconst (v := nI 0) X d_V_init_32 (by decide) ?_
  refine zr_put (fs' := [.int (nI num), .ref x, .int (zbi b), .int (nI p), .ref (q jp), .int (nI 0), .null]) X F_V_28 d_V_init_33 hj up_eq rfl rfl (Nat.le_of_ble_eq_true rfl) rfl ?_
  refine zr_aload_n X d_V_init_36 rfl ?_
  refine zr_null X d_V_init_37 ?_
  refine zr_put (fs' := [.int (nI num), .ref x, .int (zbi b), .int (nI p), .ref (q jp), .int (nI 0), .null]) X F_V_31 d_V_init_38 hj up_eq rfl rfl (Nat.le_of_ble_eq_true rfl) rfl ?_
  refine zr_return Y d_V_init_41 (Nat.le_of_ble_eq_true rfl) (Nat.le_of_ble_eq_true rfl) ?_
  exact ⟨rfl, rfl, rfl, by simp only [bx_uu]⟩

set_option maxRecDepth 100000 in
set_option maxHeartbeats 4000000 in
theorem c_B_makeChild {l : Launch} {D : va_G} {cI cC cZ cV : ClassId} {N : Nat} {q : Nat → Nat} {f : zF} (hN : 23 ≤ N) {n ins jt : Nat} (h0 : f 0 = zbo q n ins jt) {sz : Nat} (h1 : f 1 = zrow q 2 sz) {tx : Nat → Int32} (h2 : f 2 = .inl (cC, 2000, .inl tx))  (h5 : f 5 = .inr (iM, [.ref (q 6), .ref (q 7)])) {mp : Nat → Int32} (h6 : f 6 = .inl (cI, 6, .inl mp)) {mr : Nat → Int32} (h7 : f 7 = .inl (cZ, 6, .inl mr)) {md : Nat → Option Nat} (h8 : f 8 = .inl (cV, 122, .inr (.inr (.inr (.inr md))))) {jp p c : Nat} {gp : Nat → Int32} (hjp : jp < N) (h23 : 23 ≤ jp) (hfp : f jp = .inl (cC, c, .inl gp)) (htx : zCh tx) (hgp : zCh gp) {num cc at_ jp9 : Nat} {com : Int32} {pr lat : Value} {b : Bool} (hjt : jt < N) (hjt23 : 23 ≤ jt) (hjp9 : jp9 < N) (hne : jp ≠ jt) (hv : f jt = zver q num pr com at_ jp9 cc lat) (hok : zoK b p c sz) (hn : n < 122) : zC l y_B_makeChild b_B_makeChild 5 (some .int) (rmD 4 1 7) D (zty cI cC cZ cV) [.ref (q 0), .int (zbi b), .int (nI p), .ref (q jp)] N q f (fun v N' q' f' => v = some (.int (nI n)) ∧ N' = N + 1 ∧ (∃ a, q' = va_up q N a) ∧ f' N = zver q' n (.ref (q' jt)) (zbi b) p jp 0 .null ∧ f' 8 = .inl (cV, 122, .inr (.inr (.inr (.inr (va_up md n (some (q' N))))))) ∧ f' 0 = zbo q' (n + 1) ins N ∧ f' jt = zver q' num pr com at_ jp9 (cc + 1) (.ref (q' N)) ∧ f' 2 = .inl (cC, 2000, .inl (zoT b tx gp p c sz)) ∧ f' 1 = zrow q' 2 (zoS b sz c) ∧ f' 6 = .inl (cI, 6, .inl (zoM b p c mp mr)) ∧ ∀ jj, jj < N → 2 < jj → jj ≠ 6 → jj ≠ 8 → jj ≠ jt → f' jj = f jj) := by
  refine zC.of (by decide) (by simp [Value.category]) (Nat.le_of_ble_eq_true rfl) (fun G X Y => ?_)
  show G 0 0 0 [some (.ref (q 0)), some (.int (zbi b)), some (.int (nI p)), some (.ref (q jp)), none] [] N q f
  refine zr_new X NW_B_28 d_B_makeChild_0 (by decide) (by decide) (fun a1 => ?_)
  generalize hq1 : va_up q N a1 = q1
  have e1_1 : q 1 = q1 1 := by rw [← hq1, up_ne' (by omega)]
  have e1_3 : q 3 = q1 3 := by rw [← hq1, up_ne' (by omega)]
  have e1_5 : q 5 = q1 5 := by rw [← hq1, up_ne' (by omega)]
  have e1_8 : q 8 = q1 8 := by rw [← hq1, up_ne' (by omega)]
  have e1_9 : q 9 = q1 9 := by rw [← hq1, up_ne' (by omega)]
  have e1_jt : q jt = q1 jt := by rw [← hq1, up_ne' (by omega)]
  have e1_2 : q 2 = q1 2 := by rw [← hq1, up_ne' (by omega)]
  have e1_6 : q 6 = q1 6 := by rw [← hq1, up_ne' (by omega)]
  have e1_7 : q 7 = q1 7 := by rw [← hq1, up_ne' (by omega)]
  have e1_jp9 : q jp9 = q1 jp9 := by rw [← hq1, up_ne' (by omega)]
  have e1_0 : q 0 = q1 0 := by rw [← hq1, up_ne' (by omega)]
  have e1_jp : q jp = q1 jp := by rw [← hq1, up_ne' (by omega)]
  have e1_n : a1 = q1 N := by rw [← hq1, up_eq]
  simp only [zbo, zrow, zver, e1_1, e1_3, e1_5, e1_8, e1_9, e1_jt, e1_2, e1_6, e1_7, e1_jp9, e1_0, e1_jp] at h0
  simp only [zbo, zrow, zver, e1_1, e1_3, e1_5, e1_8, e1_9, e1_jt, e1_2, e1_6, e1_7, e1_jp9, e1_0, e1_jp] at h1
  simp only [zbo, zrow, zver, e1_1, e1_3, e1_5, e1_8, e1_9, e1_jt, e1_2, e1_6, e1_7, e1_jp9, e1_0, e1_jp] at h5
  simp only [zbo, zrow, zver, e1_1, e1_3, e1_5, e1_8, e1_9, e1_jt, e1_2, e1_6, e1_7, e1_jp9, e1_0, e1_jp] at hv
  try simp only [e1_1, e1_3, e1_5, e1_8, e1_9, e1_jt, e1_2, e1_6, e1_7, e1_jp9, e1_0, e1_jp]
  rw [e1_n]
  show G (0 + 1) (0 + 7) 3 [some (.ref (q1 0)), some (.int (zbi b)), some (.int (nI p)), some (.ref (q1 jp)), none] [.ref (q1 N)] (N + 1) q1 (va_up f N (.inr (iV, [.int 0, .null, .int 0, .int 0, .null, .int 0, .null])))
  refine zr_dup X d_B_makeChild_3 rfl ?_
  refine zr_aload_n X d_B_makeChild_4 rfl ?_
  refine zr_get X F_B_44 d_B_makeChild_5 (by omega) (up_ne (by omega) h0) (v := .int (nI n)) rfl ?_
  refine zr_aload_n X d_B_makeChild_8 rfl ?_
  refine zr_get X F_B_40 d_B_makeChild_9 (by omega) (up_ne (by omega) h0) (v := .ref (q1 jt)) rfl ?_
  refine zr_iload_n X d_B_makeChild_12 rfl ?_
  refine zr_iload_n X d_B_makeChild_13 rfl ?_
  refine zr_aload_n X d_B_makeChild_14 rfl ?_
  refine zr_callI X K_B_37 KI_B_37 rfl (c_V_init_ref (by omega) up_eq) d_B_makeChild_15 rfl (by decide) (Nat.le_of_ble_eq_true rfl) (by decide) (st := [.ref (q1 N)]) rfl (kW ?_)
  show G (0 + 1) (0 + 7) 18 [some (.ref (q1 0)), some (.int (zbi b)), some (.int (nI p)), some (.ref (q1 jp)), none] [.ref (q1 N)] (N + 1) q1 (va_up (va_up f N (.inr (iV, [.int 0, .null, .int 0, .int 0, .null, .int 0, .null]))) N (.inr (iV, [.int (nI n), .ref (q1 jt), .int (zbi b), .int (nI p), .ref (q1 jp), .int (nI 0), .null])))
  refine zr_astore (lv' := [some (.ref (q1 0)), some (.int (zbi b)), some (.int (nI p)), some (.ref (q1 jp)), some (.ref (q1 N))]) X d_B_makeChild_18 (by decide) rfl ?_
  refine zr_aload_n X d_B_makeChild_20 rfl ?_
  refine zr_get X F_B_30 d_B_makeChild_21 (by omega) (up_ne (by omega) (up_ne (by omega) h0)) (v := .ref (q1 8)) rfl ?_
  refine zr_aload_n X d_B_makeChild_24 rfl ?_
  refine zr_get X F_B_44 d_B_makeChild_25 (by omega) (up_ne (by omega) (up_ne (by omega) h0)) (v := .int (nI n)) rfl ?_
  refine zr_aload X d_B_makeChild_28 rfl ?_
  refine zr_aastore X 3 d_B_makeChild_30 (by omega) (up_ne (by omega) (up_ne (by omega) h8)) rfl (by omega) (by decide) (by omega) up_eq rfl ?_
  refine zr_aload_n X d_B_makeChild_31 rfl ?_
  refine zr_dup X d_B_makeChild_32 rfl ?_
  refine zr_get X F_B_44 d_B_makeChild_33 (by omega) (up_ne (by decide) (up_ne (by omega) (up_ne (by omega) h0))) (v := .int (nI n)) rfl ?_
  refine zr_iconst (v := nI 1) X d_B_makeChild_36 (by decide) ?_
  refine zr_iadd (z := nI (n + 1)) X d_B_makeChild_37 (nI_add _ _) ?_
  refine zr_put (fs' := [.ref (q1 1), .ref (q1 3), .ref (q1 5), .ref (q1 8), .ref (q1 9), .int (nI (n + 1)), .int (nI ins), .ref (q1 jt)]) X F_B_44 d_B_makeChild_38 (by omega) (up_ne (by decide) (up_ne (by omega) (up_ne (by omega) h0))) rfl rfl (Nat.le_of_ble_eq_true rfl) rfl ?_
  refine zr_aload_n X d_B_makeChild_41 rfl ?_
  refine zr_get X F_B_40 d_B_makeChild_42 (by omega) up_eq (v := .ref (q1 jt)) rfl ?_
  refine zr_dup X d_B_makeChild_45 rfl ?_
  refine zr_get X F_B_107 d_B_makeChild_46 (by omega) (up_ne (by omega) (up_ne (by omega) (up_ne (by omega) (up_ne (by omega) hv)))) (v := .int (nI cc)) rfl ?_
  refine zr_iconst (v := nI 1) X d_B_makeChild_49 (by decide) ?_
  refine zr_iadd (z := nI (cc + 1)) X d_B_makeChild_50 (nI_add _ _) ?_
  refine zr_put (fs' := [.int (nI num), pr, .int com, .int (nI at_), .ref (q1 jp9), .int (nI (cc + 1)), lat]) X F_B_107 d_B_makeChild_51 (by omega) (up_ne (by omega) (up_ne (by omega) (up_ne (by omega) (up_ne (by omega) hv)))) rfl rfl (Nat.le_of_ble_eq_true rfl) rfl ?_
  refine zr_aload_n X d_B_makeChild_54 rfl ?_
  refine zr_get X F_B_40 d_B_makeChild_55 (by omega) (up_ne (by omega) up_eq) (v := .ref (q1 jt)) rfl ?_
  refine zr_aload X d_B_makeChild_58 rfl ?_
  refine zr_put (fs' := [.int (nI num), pr, .int com, .int (nI at_), .ref (q1 jp9), .int (nI (cc + 1)), .ref (q1 N)]) X F_B_94 d_B_makeChild_60 (by omega) up_eq rfl rfl (Nat.le_of_ble_eq_true rfl) rfl ?_
  refine zr_aload_n X d_B_makeChild_63 rfl ?_
  refine zr_aload X d_B_makeChild_64 rfl ?_
  refine zr_callV X K_B_97 KI_B_97 KS_B_97 (c_B_stepOnTo (by omega) (up_ne (by omega) (up_ne (by omega) up_eq)) (up_ne (by omega) (up_ne (by omega) (up_ne (by decide) (up_ne (by decide) (up_ne (by omega) (up_ne (by omega) h1)))))) (up_ne (by omega) (up_ne (by omega) (up_ne (by decide) (up_ne (by decide) (up_ne (by omega) (up_ne (by omega) h2)))))) (up_ne (by omega) (up_ne (by omega) (up_ne (by decide) (up_ne (by decide) (up_ne (by omega) (up_ne (by omega) h5)))))) (up_ne (by omega) (up_ne (by omega) (up_ne (by decide) (up_ne (by decide) (up_ne (by omega) (up_ne (by omega) h6)))))) (up_ne (by omega) (up_ne (by omega) (up_ne (by decide) (up_ne (by decide) (up_ne (by omega) (up_ne (by omega) h7)))))) (by omega) h23 (up_ne (by omega) (up_ne (by omega) (up_ne (by omega) (up_ne (by omega) (up_ne (by omega) (up_ne (by omega) hfp)))))) htx hgp (by omega) (by omega) (up_ne (by omega) (up_ne (by omega) (up_ne (by omega) (up_ne (by omega) up_eq)))) hok) d_B_makeChild_66 (by omega) (up_ne (by omega) (up_ne (by omega) up_eq)) rfl rfl (by decide) (Nat.le_of_ble_eq_true rfl) (by decide) (st := []) rfl (kW ?_)
  show G (0 + 1) (0 + 7) 69 [some (.ref (q1 0)), some (.int (zbi b)), some (.int (nI p)), some (.ref (q1 jp)), some (.ref (q1 N))] [] (N + 1) q1 (va_up (va_up (va_up (va_up (va_up (va_up (va_up (va_up (va_up (va_up f N (.inr (iV, [.int 0, .null, .int 0, .int 0, .null, .int 0, .null]))) N (.inr (iV, [.int (nI n), .ref (q1 jt), .int (zbi b), .int (nI p), .ref (q1 jp), .int (nI 0), .null]))) 8 (.inl (cV, 122, .inr (.inr (.inr (.inr (va_up md n (some (q1 N))))))))) 0 (.inr (iB, [.ref (q1 1), .ref (q1 3), .ref (q1 5), .ref (q1 8), .ref (q1 9), .int (nI (n + 1)), .int (nI ins), .ref (q1 jt)]))) jt (.inr (iV, [.int (nI num), pr, .int com, .int (nI at_), .ref (q1 jp9), .int (nI (cc + 1)), lat]))) jt (.inr (iV, [.int (nI num), pr, .int com, .int (nI at_), .ref (q1 jp9), .int (nI (cc + 1)), .ref (q1 N)]))) 2 (.inl (cC, 2000, .inl (zoT b tx gp p c sz)))) 1 (.inr (iR, [.ref (q1 2), .int (nI (zoS b sz c))]))) 6 (.inl (cI, 6, .inl (zoM b p c mp mr)))) 0 (.inr (iB, [.ref (q1 1), .ref (q1 3), .ref (q1 5), .ref (q1 8), .ref (q1 9), .int (nI (n + 1)), .int (nI ins), .ref (q1 N)])))
  refine zr_aload X d_B_makeChild_69 rfl ?_
  refine zr_get X F_B_91 d_B_makeChild_71 (by omega) (up_ne (by omega) (up_ne (by omega) (up_ne (by omega) (up_ne (by omega) (up_ne (by omega) (up_ne (by omega) (up_ne (by omega) (up_ne (by omega) up_eq)))))))) (v := .int (nI n)) rfl ?_
  refine zr_ireturn Y d_B_makeChild_74 rfl (Nat.le_of_ble_eq_true rfl) (Nat.le_of_ble_eq_true rfl) ?_
  exact ⟨rfl, rfl, ⟨a1, hq1.symm⟩, (up_ne (by omega) (up_ne (by omega) (up_ne (by omega) (up_ne (by omega) (up_ne (by omega) (up_ne (by omega) (up_ne (by omega) (up_ne (by omega) up_eq)))))))), (up_ne (by decide) (up_ne (by decide) (up_ne (by decide) (up_ne (by decide) (up_ne (by omega) (up_ne (by omega) (up_ne (by decide) up_eq))))))), up_eq, (up_ne (by omega) (up_ne (by omega) (up_ne (by omega) (up_ne (by omega) up_eq)))), (up_ne (by decide) (up_ne (by decide) (up_ne (by decide) up_eq))), (up_ne (by decide) (up_ne (by decide) up_eq)), (up_ne (by decide) up_eq), fun jj k1 k2 k3 k4 k5 => (up_ne (by omega) (up_ne (by omega) (up_ne (by omega) (up_ne (by omega) (up_ne (by omega) (up_ne (by omega) (up_ne (by omega) (up_ne (by omega) (up_ne (by omega) (up_ne (by omega) rfl))))))))))⟩
