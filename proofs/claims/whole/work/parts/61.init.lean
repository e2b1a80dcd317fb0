set_option maxRecDepth 100000 in
set_option maxHeartbeats 4000000 in
theorem c_R_init {l : Launch} {D : va_G} {cI cC cZ cV : ClassId} {N : Nat} {q : Nat → Nat} {f : zF} {j c : Nat} (hj : j < N) (hf : f j = .inr (iR, [.null, .int 0])) (hc : c ≤ 2000) : zC l y_R_init b_R_init 2 none (rmD 1 1 2000) D (zty cI cC cZ cV) [.ref (q j), .int (nI c)] N q f (fun v N' q' f' => v = none ∧ N' = N + 1 ∧ (∃ a, q' = va_up q N a) ∧ f' N = .inl (cC, c, .inl (fun _ => 0)) ∧ f' j = zrow q' N 0 ∧ ∀ jj, jj < N → jj ≠ j → f' jj = f jj) := by
  refine zC.of (by decide) (by simp [Value.category]) (Nat.le_of_ble_eq_true rfl) (fun G X Y => ?_)
  show G 0 0 0 [some (.ref (q j)), some (.int (nI c))] [] N q f
  refine zr_aload_n X d_R_init_0 rfl ?_
  refine zr_objInit X OI_R_3 d_R_init_1 (by decide) (Nat.le_of_ble_eq_true rfl) ?_
  refine zr_aload_n X d_R_init_4 rfl ?_
  refine zr_iload_n X d_R_init_5 rfl ?_
  refine zr_newaC X 1 d_R_init_6 W_arrC rfl (by omega) (by decide) (by show 0 + c ≤ 2000; omega) (fun a1 => ?_)
  generalize hq1 : va_up q N a1 = q1
  have e1_j : q j = q1 j := by rw [← hq1, up_ne' (by omega)]
  have e1_n : a1 = q1 N := by rw [← hq1, up_eq]
  try simp only [e1_j]
  rw [e1_n]
  show G (0 + 1) (0 + c) 8 [some (.ref (q1 j)), some (.int (nI c))] [.ref (q1 N), .ref (q1 j)] (N + 1) q1 (va_up f N (.inl (cC, c, .inl (fun _ => 0))))
  refine zr_putF (fs' := [.ref (q1 N), .int 0]) X F_R_9 rfl d_R_init_8 (by omega) (up_ne (by omega) hf) rfl rfl (Nat.le_of_ble_eq_true rfl) rfl ?_
  refine zr_aload_n X d_R_init_11 rfl ?_
  refine zr_iconst (v := nI 0) X d_R_init_12 (by decide) ?_
  refine zr_put (fs' := [.ref (q1 N), .int (nI 0)]) X F_R_15 d_R_init_13 (by omega) up_eq rfl rfl (Nat.le_of_ble_eq_true rfl) rfl ?_
  refine zr_return Y d_R_init_16 (Nat.le_of_ble_eq_true rfl) (by show 0 + c ≤ 2000; omega) ?_
  exact ⟨rfl, rfl, ⟨a1, hq1.symm⟩, (up_ne (by omega) (up_ne (by omega) up_eq)), up_eq, fun jj k1 k2 => (up_ne (by omega) (up_ne (by omega) (up_ne (by omega) rfl)))⟩

set_option maxRecDepth 100000 in
set_option maxHeartbeats 4000000 in
theorem c_M_init {l : Launch} {D : va_G} {cI cC cZ cV : ClassId} {N : Nat} {q : Nat → Nat} {f : zF} {j : Nat} (hj : j < N) (hf : f j = .inr (iM, [.null, .null])) : zC l y_M_init b_M_init 2 none (rmD 1 2 12) D (zty cI cC cZ cV) [.ref (q j)] N q f (fun v N' q' f' => v = none ∧ N' = N + 2 ∧ (∃ a1 a2, q' = va_up (va_up q N a1) (N + 1) a2) ∧ f' N = .inl (cI, 6, .inl (zst 6 (fun _ => -1) (fun _ => 0))) ∧ f' (N + 1) = .inl (cZ, 6, .inl (fun _ => 0)) ∧ f' j = .inr (iM, [.ref (q' N), .ref (q' (N + 1))]) ∧ ∀ jj, jj < N → jj ≠ j → f' jj = f jj) := by
  refine zC.of (by decide) (by simp [Value.category]) (Nat.le_of_ble_eq_true rfl) (fun G X Y => ?_)
  show G 0 0 0 [some (.ref (q j)), none] [] N q f
  refine zr_aload_n X d_M_init_0 rfl ?_
  refine zr_objInit X OI_M_3 d_M_init_1 (by decide) (Nat.le_of_ble_eq_true rfl) ?_
  refine zr_aload_n X d_M_init_4 rfl ?_
  refine zr_bipush (v := nI 6) X d_M_init_5 (by decide) ?_
  refine zr_newaI X 0 d_M_init_7 W_arrI rfl (by decide) (by decide) (by decide) (fun a1 => ?_)
  generalize hq1 : va_up q N a1 = q1
  have e1_j : q j = q1 j := by rw [← hq1, up_ne' (by omega)]
  have e1_n : a1 = q1 N := by rw [← hq1, up_eq]
  try simp only [e1_j]
  rw [e1_n]
  show G (0 + 1) (0 + 6) 9 [some (.ref (q1 j)), none] [.ref (q1 N), .ref (q1 j)] (N + 1) q1 (va_up f N (.inl (cI, 6, .inl (fun _ => 0))))
  refine zr_putF (fs' := [.ref (q1 N), .null]) X F_M_9 rfl d_M_init_9 (by omega) (up_ne (by omega) hf) rfl rfl (Nat.le_of_ble_eq_true rfl) rfl ?_
  refine zr_aload_n X d_M_init_12 rfl ?_
  refine zr_bipush (v := nI 6) X d_M_init_13 (by decide) ?_
  obtain ⟨f2, ef2⟩ : ∃ z, z = va_up (va_up f N (.inl (cI, 6, .inl (fun _ => 0)))) j (.inr (iM, [.ref (q1 N), .null])) := ⟨_, rfl⟩
  rw [← ef2]
  have s2_j : f2 j = .inr (iM, [.ref (q1 N), .null]) := by rw [ef2]; exact up_eq
  have s2_N : f2 N = .inl (cI, 6, .inl (fun _ => 0)) := by rw [ef2]; exact (up_ne (by omega) up_eq)
  refine zr_newaZ X 2 d_M_init_15 W_arrZ rfl (by decide) (by decide) (by decide) (fun a3 => ?_)
  generalize hq3 : va_up q1 (N + 1) a3 = q3
  have e3_N : q1 N = q3 N := by rw [← hq3, up_ne' (by omega)]
  have e3_j : q1 j = q3 j := by rw [← hq3, up_ne' (by omega)]
  have e3_n : a3 = q3 (N + 1) := by rw [← hq3, up_eq]
  simp only [zbo, zrow, zver, e3_N, e3_j] at s2_j
  try simp only [e3_N, e3_j]
  rw [e3_n]
  show G (0 + 1 + 1) (0 + 6 + 6) 17 [some (.ref (q3 j)), none] [.ref (q3 (N + 1)), .ref (q3 j)] (N + 1 + 1) q3 (va_up f2 (N + 1) (.inl (cZ, 6, .inl (fun _ => 0))))
  refine zr_putF (fs' := [.ref (q3 N), .ref (q3 (N + 1))]) X F_M_15 rfl d_M_init_17 (by omega) (up_ne (by omega) s2_j) rfl rfl (Nat.le_of_ble_eq_true rfl) rfl ?_
  refine zr_iconst (v := nI 0) X d_M_init_20 (by decide) ?_
  refine zr_istore_n (lv' := [some (.ref (q3 j)), some (.int (nI 0))]) X d_M_init_21 (by decide) rfl ?_
  obtain ⟨f4, ef4⟩ : ∃ z, z = va_up (va_up f2 (N + 1) (.inl (cZ, 6, .inl (fun _ => 0)))) j (.inr (iM, [.ref (q3 N), .ref (q3 (N + 1))])) := ⟨_, rfl⟩
  rw [← ef4]
  have s4_j : f4 j = .inr (iM, [.ref (q3 N), .ref (q3 (N + 1))]) := by rw [ef4]; exact up_eq
  have s4_N : f4 N = .inl (cI, 6, .inl (fun _ => 0)) := by rw [ef4]; exact (up_ne (by omega) (up_ne (by omega) s2_N))
  have s4_N1 : f4 (N + 1) = .inl (cZ, 6, .inl (fun _ => 0)) := by rw [ef4]; exact (up_ne (by omega) up_eq)
  have loop : ∀ (d i : Nat), i + d = 6 → G (0 + 1 + 1) (0 + 6 + 6) 22 [some (.ref (q3 j)), some (.int (nI i))] [] (N + 1 + 1) q3 (va_up f4 N (.inl (cI, 6, .inl (zst i (fun _ => -1) (fun _ => 0))))) := by
    intro d
    induction d with
    | zero =>
      intro i hi
      show G (0 + 1 + 1) (0 + 6 + 6) 22 [some (.ref (q3 j)), some (.int (nI i))] [] (N + 1 + 1) q3 (va_up f4 N (.inl (cI, 6, .inl (zst i (fun _ => -1) (fun _ => 0)))))
      refine zr_iload_n X d_M_init_22 rfl ?_
      refine zr_bipush (v := nI 6) X d_M_init_23 (by decide) ?_
      refine zr_icmp_get (tgt := 41) X d_M_init_25 rfl (nI_le (by omega) (by omega)) ?_
      refine zr_return Y d_M_init_41 (Nat.le_of_ble_eq_true rfl) (Nat.le_of_ble_eq_true rfl) ?_
      exact ⟨rfl, rfl, ⟨a1, a3, by rw [← hq3, ← hq1]⟩, up_eq.trans (by rw [show i = 6 by omega]), (up_ne (by omega) s4_N1), (up_ne (by omega) s4_j), fun jj k1 k2 => (up_ne (by omega) (show f4 jj = f jj by rw [ef4]; exact (up_ne (by omega) (up_ne (by omega) (show f2 jj = f jj by rw [ef2]; exact (up_ne (by omega) (up_ne (by omega) rfl)))))))⟩
    | succ d ih =>
      intro i hi
      show G (0 + 1 + 1) (0 + 6 + 6) 22 [some (.ref (q3 j)), some (.int (nI i))] [] (N + 1 + 1) q3 (va_up f4 N (.inl (cI, 6, .inl (zst i (fun _ => -1) (fun _ => 0)))))
      refine zr_iload_n X d_M_init_22 rfl ?_
      refine zr_bipush (v := nI 6) X d_M_init_23 (by decide) ?_
      refine zr_icmp_gef (tgt := 41) X d_M_init_25 rfl (nI_ge (by omega) (by omega)) ?_
      refine zr_aload_n X d_M_init_28 rfl ?_
      refine zr_get X F_M_9 d_M_init_29 (by omega) (up_ne (by omega) s4_j) (v := .ref (q3 N)) rfl ?_
      refine zr_iload_n X d_M_init_32 rfl ?_
      refine zr_iconst (v := (-1)) X d_M_init_33 (by decide) ?_
      refine zr_iastore X 0 d_M_init_34 (by omega) up_eq rfl (by omega) (by decide) ?_
      refine zr_iinc (v := nI (i + 1)) (lv' := [some (.ref (q3 j)), some (.int (nI (i + 1)))]) X d_M_init_35 rfl (nI_1 _) (by decide) rfl ?_
      refine zr_goto (tgt := 22) X d_M_init_38 rfl ?_
      have h9 := ih (i + 1) (by omega)
      rw [← zst_up (v := -1) rfl] at h9
      rw [bx_uu]
      exact h9
  have h9 := loop 6 0 (by omega)
  rw [zst_0, up_self s4_N] at h9
  exact h9

set_option maxRecDepth 100000 in
set_option maxHeartbeats 4000000 in
theorem c_B_init {l : Launch} {D : va_G} {cI cC cZ cV : ClassId} {q : Nat → Nat} {f : zF} (hf : f 0 = .inr (iB, [.null, .null, .null, .null, .null, .int 0, .int 0, .null])) : zC l y_B_init b_B_init 1 none (rmD 2 11 4269) D (zty cI cC cZ cV) [.ref (q 0)] 1 q f (fun v N' q' f' => v = none ∧ N' = 12 ∧ q' 0 = q 0 ∧ f' 0 = zbo q' 1 0 10 ∧ f' 1 = zrow q' 2 0 ∧ f' 2 = .inl (cC, 2000, .inl (fun _ => 0)) ∧ f' 3 = zrow q' 4 0 ∧ f' 4 = .inl (cC, 40, .inl (fun _ => 0)) ∧ f' 5 = .inr (iM, [.ref (q' 6), .ref (q' 7)]) ∧ f' 6 = .inl (cI, 6, .inl (zst 6 (fun _ => -1) (fun _ => 0))) ∧ f' 7 = .inl (cZ, 6, .inl (fun _ => 0)) ∧ f' 8 = .inl (cV, 122, .inr (.inr (.inr (.inr (va_up (fun _ => none) 0 (some (q' 10))))))) ∧ f' 9 = .inl (cV, 122, .inr (.inr (.inr (.inr (fun _ => none))))) ∧ f' 10 = zver q' 0 .null (zbi false) 0 11 0 .null ∧ f' 11 = .inl (cC, 0, .inl (fun _ => 0))) := by
  refine zC.of (by decide) (by simp [Value.category]) (Nat.le_of_ble_eq_true rfl) (fun G X Y => ?_)
  show G 0 0 0 [some (.ref (q 0))] [] 1 q f
  refine zr_aload_n X d_B_init_0 rfl ?_
  refine zr_objInit X OI_B_1 d_B_init_1 (by decide) (Nat.le_of_ble_eq_true rfl) ?_
  refine zr_aload_n X d_B_init_4 rfl ?_
  refine zr_new X NW_B_7 d_B_init_5 (by decide) (by decide) (fun a1 => ?_)
  generalize hq1 : va_up q 1 a1 = q1
  have e1_0 : q 0 = q1 0 := by rw [← hq1, up_ne' (by omega)]
  have e1_n : a1 = q1 1 := by rw [← hq1, up_eq]
  try simp only [e1_0]
  rw [e1_n]
  show G (0 + 1) (0 + 2) 8 [some (.ref (q1 0))] [.ref (q1 1), .ref (q1 0)] 2 q1 (va_up f 1 (.inr (iR, [.null, .int 0])))
  refine zr_dup X d_B_init_8 rfl ?_
  refine zr_sipush (v := nI 2000) X d_B_init_9 (by decide) ?_
  obtain ⟨f2, ef2⟩ : ∃ z, z = va_up f 1 (.inr (iR, [.null, .int 0])) := ⟨_, rfl⟩
  rw [← ef2]
  have s2_0 : f2 0 = .inr (iB, [.null, .null, .null, .null, .null, .int 0, .int 0, .null]) := by rw [ef2]; exact (up_ne (by omega) hf)
  have s2_1 : f2 1 = .inr (iR, [.null, .int 0]) := by rw [ef2]; exact up_eq
  refine zr_callI X K_B_11 KI_B_11 rfl (c_R_init (c := 2000) (by decide) s2_1 (by decide)) d_B_init_12 rfl (by decide) (Nat.le_of_ble_eq_true rfl) (by decide) (st := [.ref (q1 1), .ref (q1 0)]) rfl (fun v9 N9 q9 g3 hr9 => ?_)
  obtain ⟨rfl, rfl, ⟨b3, rfl⟩, p3_1, p3_2, p3_3⟩ := hr9
  have s3_0 : g3 0 = .inr (iB, [.null, .null, .null, .null, .null, .int 0, .int 0, .null]) := (p3_3 0 (by decide) (by decide)).trans s2_0
  generalize hq3 : va_up q1 2 b3 = q3 at p3_1 p3_2 ⊢
  have e3_0 : q1 0 = q3 0 := by rw [← hq3]; simp [va_up]
  have e3_1 : q1 1 = q3 1 := by rw [← hq3]; simp [va_up]
  try simp only [e3_0, e3_1]
  show G (0 + 1 + 1) (0 + 2 + 2000) 15 [some (.ref (q3 0))] [.ref (q3 1), .ref (q3 0)] 3 q3 g3
  refine zr_putF (fs' := [.ref (q3 1), .null, .null, .null, .null, .int 0, .int 0, .null]) X F_B_14 rfl d_B_init_15 (by omega) s3_0 rfl rfl (Nat.le_of_ble_eq_true rfl) rfl ?_
  refine zr_aload_n X d_B_init_18 rfl ?_
  obtain ⟨f4, ef4⟩ : ∃ z, z = va_up g3 0 (.inr (iB, [.ref (q3 1), .null, .null, .null, .null, .int 0, .int 0, .null])) := ⟨_, rfl⟩
  rw [← ef4]
  have s4_0 : f4 0 = .inr (iB, [.ref (q3 1), .null, .null, .null, .null, .int 0, .int 0, .null]) := by rw [ef4]; exact up_eq
  have s4_2 : f4 2 = .inl (cC, 2000, .inl (fun _ => 0)) := by rw [ef4]; exact (up_ne (by decide) p3_1)
  have s4_1 : f4 1 = .inr (iR, [.ref (q3 2), .int (nI 0)]) := by rw [ef4]; exact (up_ne (by decide) p3_2)
  refine zr_new X NW_B_7 d_B_init_19 (by decide) (by decide) (fun a5 => ?_)
  generalize hq5 : va_up q3 3 a5 = q5
  have e5_1 : q3 1 = q5 1 := by rw [← hq5, up_ne' (by omega)]
  have e5_2 : q3 2 = q5 2 := by rw [← hq5, up_ne' (by omega)]
  have e5_0 : q3 0 = q5 0 := by rw [← hq5, up_ne' (by omega)]
  have e5_n : a5 = q5 3 := by rw [← hq5, up_eq]
  simp only [zbo, zrow, zver, e5_1, e5_2, e5_0] at s4_0
  simp only [zbo, zrow, zver, e5_1, e5_2, e5_0] at s4_1
  try simp only [e5_1, e5_2, e5_0]
  rw [e5_n]
  show G (0 + 1 + 1 + 1) (0 + 2 + 2000 + 2) 22 [some (.ref (q5 0))] [.ref (q5 3), .ref (q5 0)] 4 q5 (va_up f4 3 (.inr (iR, [.null, .int 0])))
  refine zr_dup X d_B_init_22 rfl ?_
  refine zr_bipush (v := nI 40) X d_B_init_23 (by decide) ?_
  obtain ⟨f6, ef6⟩ : ∃ z, z = va_up f4 3 (.inr (iR, [.null, .int 0])) := ⟨_, rfl⟩
  rw [← ef6]
  have s6_0 : f6 0 = .inr (iB, [.ref (q5 1), .null, .null, .null, .null, .int 0, .int 0, .null]) := by rw [ef6]; exact (up_ne (by omega) s4_0)
  have s6_2 : f6 2 = .inl (cC, 2000, .inl (fun _ => 0)) := by rw [ef6]; exact (up_ne (by omega) s4_2)
  have s6_1 : f6 1 = .inr (iR, [.ref (q5 2), .int (nI 0)]) := by rw [ef6]; exact (up_ne (by omega) s4_1)
  have s6_3 : f6 3 = .inr (iR, [.null, .int 0]) := by rw [ef6]; exact up_eq
  refine zr_callI X K_B_11 KI_B_11 rfl (c_R_init (c := 40) (by decide) s6_3 (by decide)) d_B_init_25 rfl (by decide) (Nat.le_of_ble_eq_true rfl) (by decide) (st := [.ref (q5 3), .ref (q5 0)]) rfl (fun v9 N9 q9 g7 hr9 => ?_)
  obtain ⟨rfl, rfl, ⟨b7, rfl⟩, p7_1, p7_2, p7_3⟩ := hr9
  have s7_0 : g7 0 = .inr (iB, [.ref (q5 1), .null, .null, .null, .null, .int 0, .int 0, .null]) := (p7_3 0 (by decide) (by decide)).trans s6_0
  have s7_2 : g7 2 = .inl (cC, 2000, .inl (fun _ => 0)) := (p7_3 2 (by decide) (by decide)).trans s6_2
  have s7_1 : g7 1 = .inr (iR, [.ref (q5 2), .int (nI 0)]) := (p7_3 1 (by decide) (by decide)).trans s6_1
  generalize hq7 : va_up q5 4 b7 = q7 at p7_1 p7_2 ⊢
  have e7_1 : q5 1 = q7 1 := by rw [← hq7]; simp [va_up]
  have e7_2 : q5 2 = q7 2 := by rw [← hq7]; simp [va_up]
  have e7_0 : q5 0 = q7 0 := by rw [← hq7]; simp [va_up]
  have e7_3 : q5 3 = q7 3 := by rw [← hq7]; simp [va_up]
  simp only [zbo, zrow, zver, e7_1, e7_2, e7_0, e7_3] at s7_0
  simp only [zbo, zrow, zver, e7_1, e7_2, e7_0, e7_3] at s7_1
  try simp only [e7_1, e7_2, e7_0, e7_3]
  show G (0 + 1 + 1 + 1 + 1) (0 + 2 + 2000 + 2 + 2000) 28 [some (.ref (q7 0))] [.ref (q7 3), .ref (q7 0)] 5 q7 g7
  refine zr_putF (fs' := [.ref (q7 1), .ref (q7 3), .null, .null, .null, .int 0, .int 0, .null]) X F_B_18 rfl d_B_init_28 (by omega) s7_0 rfl rfl (Nat.le_of_ble_eq_true rfl) rfl ?_
  refine zr_aload_n X d_B_init_31 rfl ?_
  obtain ⟨f8, ef8⟩ : ∃ z, z = va_up g7 0 (.inr (iB, [.ref (q7 1), .ref (q7 3), .null, .null, .null, .int 0, .int 0, .null])) := ⟨_, rfl⟩
  rw [← ef8]
  have s8_0 : f8 0 = .inr (iB, [.ref (q7 1), .ref (q7 3), .null, .null, .null, .int 0, .int 0, .null]) := by rw [ef8]; exact up_eq
  have s8_2 : f8 2 = .inl (cC, 2000, .inl (fun _ => 0)) := by rw [ef8]; exact (up_ne (by decide) s7_2)
  have s8_1 : f8 1 = .inr (iR, [.ref (q7 2), .int (nI 0)]) := by rw [ef8]; exact (up_ne (by decide) s7_1)
  have s8_4 : f8 4 = .inl (cC, 40, .inl (fun _ => 0)) := by rw [ef8]; exact (up_ne (by decide) p7_1)
  have s8_3 : f8 3 = .inr (iR, [.ref (q7 4), .int (nI 0)]) := by rw [ef8]; exact (up_ne (by decide) p7_2)
  refine zr_new X NW_B_21 d_B_init_32 (by decide) (by decide) (fun a9 => ?_)
  generalize hq9 : va_up q7 5 a9 = q9
  have e9_1 : q7 1 = q9 1 := by rw [← hq9, up_ne' (by omega)]
  have e9_3 : q7 3 = q9 3 := by rw [← hq9, up_ne' (by omega)]
  have e9_2 : q7 2 = q9 2 := by rw [← hq9, up_ne' (by omega)]
  have e9_4 : q7 4 = q9 4 := by rw [← hq9, up_ne' (by omega)]
  have e9_0 : q7 0 = q9 0 := by rw [← hq9, up_ne' (by omega)]
  have e9_n : a9 = q9 5 := by rw [← hq9, up_eq]
  simp only [zbo, zrow, zver, e9_1, e9_3, e9_2, e9_4, e9_0] at s8_0
  simp only [zbo, zrow, zver, e9_1, e9_3, e9_2, e9_4, e9_0] at s8_1
  simp only [zbo, zrow, zver, e9_1, e9_3, e9_2, e9_4, e9_0] at s8_3
  try simp only [e9_1, e9_3, e9_2, e9_4, e9_0]
  rw [e9_n]
  show G (0 + 1 + 1 + 1 + 1 + 1) (0 + 2 + 2000 + 2 + 2000 + 2) 35 [some (.ref (q9 0))] [.ref (q9 5), .ref (q9 0)] 6 q9 (va_up f8 5 (.inr (iM, [.null, .null])))
  refine zr_dup X d_B_init_35 rfl ?_
  obtain ⟨f10, ef10⟩ : ∃ z, z = va_up f8 5 (.inr (iM, [.null, .null])) := ⟨_, rfl⟩
  rw [← ef10]
  have s10_0 : f10 0 = .inr (iB, [.ref (q9 1), .ref (q9 3), .null, .null, .null, .int 0, .int 0, .null]) := by rw [ef10]; exact (up_ne (by omega) s8_0)
  have s10_2 : f10 2 = .inl (cC, 2000, .inl (fun _ => 0)) := by rw [ef10]; exact (up_ne (by omega) s8_2)
  have s10_1 : f10 1 = .inr (iR, [.ref (q9 2), .int (nI 0)]) := by rw [ef10]; exact (up_ne (by omega) s8_1)
  have s10_4 : f10 4 = .inl (cC, 40, .inl (fun _ => 0)) := by rw [ef10]; exact (up_ne (by omega) s8_4)
  have s10_3 : f10 3 = .inr (iR, [.ref (q9 4), .int (nI 0)]) := by rw [ef10]; exact (up_ne (by omega) s8_3)
  have s10_5 : f10 5 = .inr (iM, [.null, .null]) := by rw [ef10]; exact up_eq
  refine zr_callI X K_B_23 KI_B_23 rfl (c_M_init (by decide) s10_5) d_B_init_36 rfl (by decide) (Nat.le_of_ble_eq_true rfl) (by decide) (st := [.ref (q9 5), .ref (q9 0)]) rfl (fun v9 N9 q9 g11 hr9 => ?_)
  obtain ⟨rfl, rfl, ⟨b11, d11, rfl⟩, p11_1, p11_2, p11_3, p11_4⟩ := hr9
  have s11_0 : g11 0 = .inr (iB, [.ref (q9 1), .ref (q9 3), .null, .null, .null, .int 0, .int 0, .null]) := (p11_4 0 (by decide) (by decide)).trans s10_0
  have s11_2 : g11 2 = .inl (cC, 2000, .inl (fun _ => 0)) := (p11_4 2 (by decide) (by decide)).trans s10_2
  have s11_1 : g11 1 = .inr (iR, [.ref (q9 2), .int (nI 0)]) := (p11_4 1 (by decide) (by decide)).trans s10_1
  have s11_4 : g11 4 = .inl (cC, 40, .inl (fun _ => 0)) := (p11_4 4 (by decide) (by decide)).trans s10_4
  have s11_3 : g11 3 = .inr (iR, [.ref (q9 4), .int (nI 0)]) := (p11_4 3 (by decide) (by decide)).trans s10_3
  generalize hq11 : va_up (va_up q9 6 b11) (6 + 1) d11 = q11 at p11_1 p11_2 p11_3 ⊢
  have e11_1 : q9 1 = q11 1 := by rw [← hq11]; simp [va_up]
  have e11_3 : q9 3 = q11 3 := by rw [← hq11]; simp [va_up]
  have e11_2 : q9 2 = q11 2 := by rw [← hq11]; simp [va_up]
  have e11_4 : q9 4 = q11 4 := by rw [← hq11]; simp [va_up]
  have e11_0 : q9 0 = q11 0 := by rw [← hq11]; simp [va_up]
  have e11_5 : q9 5 = q11 5 := by rw [← hq11]; simp [va_up]
  simp only [zbo, zrow, zver, e11_1, e11_3, e11_2, e11_4, e11_0, e11_5] at s11_0
  simp only [zbo, zrow, zver, e11_1, e11_3, e11_2, e11_4, e11_0, e11_5] at s11_1
  simp only [zbo, zrow, zver, e11_1, e11_3, e11_2, e11_4, e11_0, e11_5] at s11_3
  try simp only [e11_1, e11_3, e11_2, e11_4, e11_0, e11_5]
  show G (0 + 1 + 1 + 1 + 1 + 1 + 2) (0 + 2 + 2000 + 2 + 2000 + 2 + 12) 39 [some (.ref (q11 0))] [.ref (q11 5), .ref (q11 0)] 8 q11 g11
  refine zr_putF (fs' := [.ref (q11 1), .ref (q11 3), .ref (q11 5), .null, .null, .int 0, .int 0, .null]) X F_B_24 rfl d_B_init_39 (by omega) s11_0 rfl rfl (Nat.le_of_ble_eq_true rfl) rfl ?_
  refine zr_aload_n X d_B_init_42 rfl ?_
  refine zr_bipush (v := nI 122) X d_B_init_43 (by decide) ?_
  obtain ⟨f12, ef12⟩ : ∃ z, z = va_up g11 0 (.inr (iB, [.ref (q11 1), .ref (q11 3), .ref (q11 5), .null, .null, .int 0, .int 0, .null])) := ⟨_, rfl⟩
  rw [← ef12]
  have s12_0 : f12 0 = .inr (iB, [.ref (q11 1), .ref (q11 3), .ref (q11 5), .null, .null, .int 0, .int 0, .null]) := by rw [ef12]; exact up_eq
  have s12_2 : f12 2 = .inl (cC, 2000, .inl (fun _ => 0)) := by rw [ef12]; exact (up_ne (by decide) s11_2)
  have s12_1 : f12 1 = .inr (iR, [.ref (q11 2), .int (nI 0)]) := by rw [ef12]; exact (up_ne (by decide) s11_1)
  have s12_4 : f12 4 = .inl (cC, 40, .inl (fun _ => 0)) := by rw [ef12]; exact (up_ne (by decide) s11_4)
  have s12_3 : f12 3 = .inr (iR, [.ref (q11 4), .int (nI 0)]) := by rw [ef12]; exact (up_ne (by decide) s11_3)
  have s12_6 : f12 6 = .inl (cI, 6, .inl (zst 6 (fun _ => -1) (fun _ => 0))) := by rw [ef12]; exact (up_ne (by decide) p11_1)
  have s12_7 : f12 7 = .inl (cZ, 6, .inl (fun _ => 0)) := by rw [ef12]; exact (up_ne (by decide) p11_2)
  have s12_5 : f12 5 = .inr (iM, [.ref (q11 6), .ref (q11 7)]) := by rw [ef12]; exact (up_ne (by decide) p11_3)
  refine zr_anew X 3 d_B_init_45 AN_B_28 rfl rfl (by decide) (by decide) (by decide) (fun a13 => ?_)
  generalize hq13 : va_up q11 8 a13 = q13
  have e13_1 : q11 1 = q13 1 := by rw [← hq13, up_ne' (by omega)]
  have e13_3 : q11 3 = q13 3 := by rw [← hq13, up_ne' (by omega)]
  have e13_5 : q11 5 = q13 5 := by rw [← hq13, up_ne' (by omega)]
  have e13_2 : q11 2 = q13 2 := by rw [← hq13, up_ne' (by omega)]
  have e13_4 : q11 4 = q13 4 := by rw [← hq13, up_ne' (by omega)]
  have e13_6 : q11 6 = q13 6 := by rw [← hq13, up_ne' (by omega)]
  have e13_7 : q11 7 = q13 7 := by rw [← hq13, up_ne' (by omega)]
  have e13_0 : q11 0 = q13 0 := by rw [← hq13, up_ne' (by omega)]
  have e13_n : a13 = q13 8 := by rw [← hq13, up_eq]
  simp only [zbo, zrow, zver, e13_1, e13_3, e13_5, e13_2, e13_4, e13_6, e13_7, e13_0] at s12_0
  simp only [zbo, zrow, zver, e13_1, e13_3, e13_5, e13_2, e13_4, e13_6, e13_7, e13_0] at s12_1
  simp only [zbo, zrow, zver, e13_1, e13_3, e13_5, e13_2, e13_4, e13_6, e13_7, e13_0] at s12_3
  simp only [zbo, zrow, zver, e13_1, e13_3, e13_5, e13_2, e13_4, e13_6, e13_7, e13_0] at s12_5
  try simp only [e13_1, e13_3, e13_5, e13_2, e13_4, e13_6, e13_7, e13_0]
  rw [e13_n]
  show G (0 + 1 + 1 + 1 + 1 + 1 + 2 + 1) (0 + 2 + 2000 + 2 + 2000 + 2 + 12 + 122) 48 [some (.ref (q13 0))] [.ref (q13 8), .ref (q13 0)] 9 q13 (va_up f12 8 (.inl (cV, 122, .inr (.inr (.inr (.inr (fun _ => none)))))))
  refine zr_putF (fs' := [.ref (q13 1), .ref (q13 3), .ref (q13 5), .ref (q13 8), .null, .int 0, .int 0, .null]) X F_B_30 rfl d_B_init_48 (by omega) (up_ne (by omega) s12_0) rfl rfl (Nat.le_of_ble_eq_true rfl) rfl ?_
  refine zr_aload_n X d_B_init_51 rfl ?_
  refine zr_bipush (v := nI 122) X d_B_init_52 (by decide) ?_
  obtain ⟨f14, ef14⟩ : ∃ z, z = va_up (va_up f12 8 (.inl (cV, 122, .inr (.inr (.inr (.inr (fun _ => none))))))) 0 (.inr (iB, [.ref (q13 1), .ref (q13 3), .ref (q13 5), .ref (q13 8), .null, .int 0, .int 0, .null])) := ⟨_, rfl⟩
  rw [← ef14]
  have s14_0 : f14 0 = .inr (iB, [.ref (q13 1), .ref (q13 3), .ref (q13 5), .ref (q13 8), .null, .int 0, .int 0, .null]) := by rw [ef14]; exact up_eq
  have s14_2 : f14 2 = .inl (cC, 2000, .inl (fun _ => 0)) := by rw [ef14]; exact (up_ne (by decide) (up_ne (by omega) s12_2))
  have s14_1 : f14 1 = .inr (iR, [.ref (q13 2), .int (nI 0)]) := by rw [ef14]; exact (up_ne (by decide) (up_ne (by omega) s12_1))
  have s14_4 : f14 4 = .inl (cC, 40, .inl (fun _ => 0)) := by rw [ef14]; exact (up_ne (by decide) (up_ne (by omega) s12_4))
  have s14_3 : f14 3 = .inr (iR, [.ref (q13 4), .int (nI 0)]) := by rw [ef14]; exact (up_ne (by decide) (up_ne (by omega) s12_3))
  have s14_6 : f14 6 = .inl (cI, 6, .inl (zst 6 (fun _ => -1) (fun _ => 0))) := by rw [ef14]; exact (up_ne (by decide) (up_ne (by omega) s12_6))
  have s14_7 : f14 7 = .inl (cZ, 6, .inl (fun _ => 0)) := by rw [ef14]; exact (up_ne (by decide) (up_ne (by omega) s12_7))
  have s14_5 : f14 5 = .inr (iM, [.ref (q13 6), .ref (q13 7)]) := by rw [ef14]; exact (up_ne (by decide) (up_ne (by omega) s12_5))
  have s14_8 : f14 8 = .inl (cV, 122, .inr (.inr (.inr (.inr (fun _ => none))))) := by rw [ef14]; exact (up_ne (by decide) up_eq)
  refine zr_anew X 3 d_B_init_54 AN_B_28 rfl rfl (by decide) (by decide) (by decide) (fun a15 => ?_)
  generalize hq15 : va_up q13 9 a15 = q15
  have e15_1 : q13 1 = q15 1 := by rw [← hq15, up_ne' (by omega)]
  have e15_3 : q13 3 = q15 3 := by rw [← hq15, up_ne' (by omega)]
  have e15_5 : q13 5 = q15 5 := by rw [← hq15, up_ne' (by omega)]
  have e15_8 : q13 8 = q15 8 := by rw [← hq15, up_ne' (by omega)]
  have e15_2 : q13 2 = q15 2 := by rw [← hq15, up_ne' (by omega)]
  have e15_4 : q13 4 = q15 4 := by rw [← hq15, up_ne' (by omega)]
  have e15_6 : q13 6 = q15 6 := by rw [← hq15, up_ne' (by omega)]
  have e15_7 : q13 7 = q15 7 := by rw [← hq15, up_ne' (by omega)]
  have e15_0 : q13 0 = q15 0 := by rw [← hq15, up_ne' (by omega)]
  have e15_n : a15 = q15 9 := by rw [← hq15, up_eq]
  simp only [zbo, zrow, zver, e15_1, e15_3, e15_5, e15_8, e15_2, e15_4, e15_6, e15_7, e15_0] at s14_0
  simp only [zbo, zrow, zver, e15_1, e15_3, e15_5, e15_8, e15_2, e15_4, e15_6, e15_7, e15_0] at s14_1
  simp only [zbo, zrow, zver, e15_1, e15_3, e15_5, e15_8, e15_2, e15_4, e15_6, e15_7, e15_0] at s14_3
  simp only [zbo, zrow, zver, e15_1, e15_3, e15_5, e15_8, e15_2, e15_4, e15_6, e15_7, e15_0] at s14_5
  try simp only [e15_1, e15_3, e15_5, e15_8, e15_2, e15_4, e15_6, e15_7, e15_0]
  rw [e15_n]
  show G (0 + 1 + 1 + 1 + 1 + 1 + 2 + 1 + 1) (0 + 2 + 2000 + 2 + 2000 + 2 + 12 + 122 + 122) 57 [some (.ref (q15 0))] [.ref (q15 9), .ref (q15 0)] 10 q15 (va_up f14 9 (.inl (cV, 122, .inr (.inr (.inr (.inr (fun _ => none)))))))
  refine zr_putF (fs' := [.ref (q15 1), .ref (q15 3), .ref (q15 5), .ref (q15 8), .ref (q15 9), .int 0, .int 0, .null]) X F_B_34 rfl d_B_init_57 (by omega) (up_ne (by omega) s14_0) rfl rfl (Nat.le_of_ble_eq_true rfl) rfl ?_
  refine zr_aload_n X d_B_init_60 rfl ?_
  obtain ⟨f16, ef16⟩ : ∃ z, z = va_up (va_up f14 9 (.inl (cV, 122, .inr (.inr (.inr (.inr (fun _ => none))))))) 0 (.inr (iB, [.ref (q15 1), .ref (q15 3), .ref (q15 5), .ref (q15 8), .ref (q15 9), .int 0, .int 0, .null])) := ⟨_, rfl⟩
  rw [← ef16]
  have s16_0 : f16 0 = .inr (iB, [.ref (q15 1), .ref (q15 3), .ref (q15 5), .ref (q15 8), .ref (q15 9), .int 0, .int 0, .null]) := by rw [ef16]; exact up_eq
  have s16_2 : f16 2 = .inl (cC, 2000, .inl (fun _ => 0)) := by rw [ef16]; exact (up_ne (by decide) (up_ne (by omega) s14_2))
  have s16_1 : f16 1 = .inr (iR, [.ref (q15 2), .int (nI 0)]) := by rw [ef16]; exact (up_ne (by decide) (up_ne (by omega) s14_1))
  have s16_4 : f16 4 = .inl (cC, 40, .inl (fun _ => 0)) := by rw [ef16]; exact (up_ne (by decide) (up_ne (by omega) s14_4))
  have s16_3 : f16 3 = .inr (iR, [.ref (q15 4), .int (nI 0)]) := by rw [ef16]; exact (up_ne (by decide) (up_ne (by omega) s14_3))
  have s16_6 : f16 6 = .inl (cI, 6, .inl (zst 6 (fun _ => -1) (fun _ => 0))) := by rw [ef16]; exact (up_ne (by decide) (up_ne (by omega) s14_6))
  have s16_7 : f16 7 = .inl (cZ, 6, .inl (fun _ => 0)) := by rw [ef16]; exact (up_ne (by decide) (up_ne (by omega) s14_7))
  have s16_5 : f16 5 = .inr (iM, [.ref (q15 6), .ref (q15 7)]) := by rw [ef16]; exact (up_ne (by decide) (up_ne (by omega) s14_5))
  have s16_8 : f16 8 = .inl (cV, 122, .inr (.inr (.inr (.inr (fun _ => none))))) := by rw [ef16]; exact (up_ne (by decide) (up_ne (by omega) s14_8))
  have s16_9 : f16 9 = .inl (cV, 122, .inr (.inr (.inr (.inr (fun _ => none))))) := by rw [ef16]; exact (up_ne (by decide) up_eq)
  refine zr_new X NW_B_28 d_B_init_61 (by decide) (by decide) (fun a17 => ?_)
  generalize hq17 : va_up q15 10 a17 = q17
  have e17_1 : q15 1 = q17 1 := by rw [← hq17, up_ne' (by omega)]
  have e17_3 : q15 3 = q17 3 := by rw [← hq17, up_ne' (by omega)]
  have e17_5 : q15 5 = q17 5 := by rw [← hq17, up_ne' (by omega)]
  have e17_8 : q15 8 = q17 8 := by rw [← hq17, up_ne' (by omega)]
  have e17_9 : q15 9 = q17 9 := by rw [← hq17, up_ne' (by omega)]
  have e17_2 : q15 2 = q17 2 := by rw [← hq17, up_ne' (by omega)]
  have e17_4 : q15 4 = q17 4 := by rw [← hq17, up_ne' (by omega)]
  have e17_6 : q15 6 = q17 6 := by rw [← hq17, up_ne' (by omega)]
  have e17_7 : q15 7 = q17 7 := by rw [← hq17, up_ne' (by omega)]
  have e17_0 : q15 0 = q17 0 := by rw [← hq17, up_ne' (by omega)]
  have e17_n : a17 = q17 10 := by rw [← hq17, up_eq]
  simp only [zbo, zrow, zver, e17_1, e17_3, e17_5, e17_8, e17_9, e17_2, e17_4, e17_6, e17_7, e17_0] at s16_0
  simp only [zbo, zrow, zver, e17_1, e17_3, e17_5, e17_8, e17_9, e17_2, e17_4, e17_6, e17_7, e17_0] at s16_1
  simp only [zbo, zrow, zver, e17_1, e17_3, e17_5, e17_8, e17_9, e17_2, e17_4, e17_6, e17_7, e17_0] at s16_3
  simp only [zbo, zrow, zver, e17_1, e17_3, e17_5, e17_8, e17_9, e17_2, e17_4, e17_6, e17_7, e17_0] at s16_5
  try simp only [e17_1, e17_3, e17_5, e17_8, e17_9, e17_2, e17_4, e17_6, e17_7, e17_0]
  rw [e17_n]
  show G (0 + 1 + 1 + 1 + 1 + 1 + 2 + 1 + 1 + 1) (0 + 2 + 2000 + 2 + 2000 + 2 + 12 + 122 + 122 + 7) 64 [some (.ref (q17 0))] [.ref (q17 10), .ref (q17 0)] 11 q17 (va_up f16 10 (.inr (iV, [.int 0, .null, .int 0, .int 0, .null, .int 0, .null])))
  refine zr_dup X d_B_init_64 rfl ?_
  refine zr_iconst (v := nI 0) X d_B_init_65 (by decide) ?_
  refine zr_null X d_B_init_66 ?_
  refine zr_iconst (v := zbi false) X d_B_init_67 (by decide) ?_
  refine zr_iconst (v := nI 0) X d_B_init_68 (by decide) ?_
  refine zr_iconst (v := nI 0) X d_B_init_69 (by decide) ?_
  obtain ⟨f18, ef18⟩ : ∃ z, z = va_up f16 10 (.inr (iV, [.int 0, .null, .int 0, .int 0, .null, .int 0, .null])) := ⟨_, rfl⟩
  rw [← ef18]
  have s18_0 : f18 0 = .inr (iB, [.ref (q17 1), .ref (q17 3), .ref (q17 5), .ref (q17 8), .ref (q17 9), .int 0, .int 0, .null]) := by rw [ef18]; exact (up_ne (by omega) s16_0)
  have s18_2 : f18 2 = .inl (cC, 2000, .inl (fun _ => 0)) := by rw [ef18]; exact (up_ne (by omega) s16_2)
  have s18_1 : f18 1 = .inr (iR, [.ref (q17 2), .int (nI 0)]) := by rw [ef18]; exact (up_ne (by omega) s16_1)
  have s18_4 : f18 4 = .inl (cC, 40, .inl (fun _ => 0)) := by rw [ef18]; exact (up_ne (by omega) s16_4)
  have s18_3 : f18 3 = .inr (iR, [.ref (q17 4), .int (nI 0)]) := by rw [ef18]; exact (up_ne (by omega) s16_3)
  have s18_6 : f18 6 = .inl (cI, 6, .inl (zst 6 (fun _ => -1) (fun _ => 0))) := by rw [ef18]; exact (up_ne (by omega) s16_6)
  have s18_7 : f18 7 = .inl (cZ, 6, .inl (fun _ => 0)) := by rw [ef18]; exact (up_ne (by omega) s16_7)
  have s18_5 : f18 5 = .inr (iM, [.ref (q17 6), .ref (q17 7)]) := by rw [ef18]; exact (up_ne (by omega) s16_5)
  have s18_8 : f18 8 = .inl (cV, 122, .inr (.inr (.inr (.inr (fun _ => none))))) := by rw [ef18]; exact (up_ne (by omega) s16_8)
  have s18_9 : f18 9 = .inl (cV, 122, .inr (.inr (.inr (.inr (fun _ => none))))) := by rw [ef18]; exact (up_ne (by omega) s16_9)
  have s18_10 : f18 10 = .inr (iV, [.int 0, .null, .int 0, .int 0, .null, .int 0, .null]) := by rw [ef18]; exact up_eq
  refine zr_newaC X 1 d_B_init_70 W_arrC rfl (by decide) (by decide) (by decide) (fun a19 => ?_)
  generalize hq19 : va_up q17 11 a19 = q19
  have e19_1 : q17 1 = q19 1 := by rw [← hq19, up_ne' (by omega)]
  have e19_3 : q17 3 = q19 3 := by rw [← hq19, up_ne' (by omega)]
  have e19_5 : q17 5 = q19 5 := by rw [← hq19, up_ne' (by omega)]
  have e19_8 : q17 8 = q19 8 := by rw [← hq19, up_ne' (by omega)]
  have e19_9 : q17 9 = q19 9 := by rw [← hq19, up_ne' (by omega)]
  have e19_2 : q17 2 = q19 2 := by rw [← hq19, up_ne' (by omega)]
  have e19_4 : q17 4 = q19 4 := by rw [← hq19, up_ne' (by omega)]
  have e19_6 : q17 6 = q19 6 := by rw [← hq19, up_ne' (by omega)]
  have e19_7 : q17 7 = q19 7 := by rw [← hq19, up_ne' (by omega)]
  have e19_0 : q17 0 = q19 0 := by rw [← hq19, up_ne' (by omega)]
  have e19_10 : q17 10 = q19 10 := by rw [← hq19, up_ne' (by omega)]
  have e19_n : a19 = q19 11 := by rw [← hq19, up_eq]
  simp only [zbo, zrow, zver, e19_1, e19_3, e19_5, e19_8, e19_9, e19_2, e19_4, e19_6, e19_7, e19_0, e19_10] at s18_0
  simp only [zbo, zrow, zver, e19_1, e19_3, e19_5, e19_8, e19_9, e19_2, e19_4, e19_6, e19_7, e19_0, e19_10] at s18_1
  simp only [zbo, zrow, zver, e19_1, e19_3, e19_5, e19_8, e19_9, e19_2, e19_4, e19_6, e19_7, e19_0, e19_10] at s18_3
  simp only [zbo, zrow, zver, e19_1, e19_3, e19_5, e19_8, e19_9, e19_2, e19_4, e19_6, e19_7, e19_0, e19_10] at s18_5
  try simp only [e19_1, e19_3, e19_5, e19_8, e19_9, e19_2, e19_4, e19_6, e19_7, e19_0, e19_10]
  rw [e19_n]
  show G (0 + 1 + 1 + 1 + 1 + 1 + 2 + 1 + 1 + 1 + 1) (0 + 2 + 2000 + 2 + 2000 + 2 + 12 + 122 + 122 + 7 + 0) 72 [some (.ref (q19 0))] [.ref (q19 11), .int (nI 0), .int (zbi false), .null, .int (nI 0), .ref (q19 10), .ref (q19 10), .ref (q19 0)] 12 q19 (va_up f18 11 (.inl (cC, 0, .inl (fun _ => 0))))
  refine zr_callI X K_B_37 KI_B_37 rfl (c_V_init_null (by decide) (up_ne (by omega) s18_10)) d_B_init_72 rfl (by decide) (Nat.le_of_ble_eq_true rfl) (by decide) (st := [.ref (q19 10), .ref (q19 0)]) rfl (kW ?_)
  show G (0 + 1 + 1 + 1 + 1 + 1 + 2 + 1 + 1 + 1 + 1) (0 + 2 + 2000 + 2 + 2000 + 2 + 12 + 122 + 122 + 7 + 0) 75 [some (.ref (q19 0))] [.ref (q19 10), .ref (q19 0)] 12 q19 (va_up (va_up f18 11 (.inl (cC, 0, .inl (fun _ => 0)))) 10 (.inr (iV, [.int (nI 0), .null, .int (zbi false), .int (nI 0), .ref (q19 11), .int (nI 0), .null])))
  refine zr_put (fs' := [.ref (q19 1), .ref (q19 3), .ref (q19 5), .ref (q19 8), .ref (q19 9), .int 0, .int 0, .ref (q19 10)]) X F_B_40 d_B_init_75 (by omega) (up_ne (by decide) (up_ne (by omega) s18_0)) rfl rfl (Nat.le_of_ble_eq_true rfl) rfl ?_
  refine zr_aload_n X d_B_init_78 rfl ?_
  refine zr_get X F_B_30 d_B_init_79 (by omega) up_eq (v := .ref (q19 8)) rfl ?_
  refine zr_iconst (v := nI 0) X d_B_init_82 (by decide) ?_
  refine zr_aload_n X d_B_init_83 rfl ?_
  refine zr_get X F_B_40 d_B_init_84 (by omega) up_eq (v := .ref (q19 10)) rfl ?_
  refine zr_aastore X 3 d_B_init_87 (by omega) (up_ne (by decide) (up_ne (by decide) (up_ne (by omega) s18_8))) rfl (by omega) (by decide) (by omega) (up_ne (by decide) up_eq) rfl ?_
  refine zr_aload_n X d_B_init_88 rfl ?_
  refine zr_iconst (v := nI 1) X d_B_init_89 (by decide) ?_
  refine zr_put (fs' := [.ref (q19 1), .ref (q19 3), .ref (q19 5), .ref (q19 8), .ref (q19 9), .int (nI 1), .int 0, .ref (q19 10)]) X F_B_44 d_B_init_90 (by omega) (up_ne (by decide) up_eq) rfl rfl (Nat.le_of_ble_eq_true rfl) rfl ?_
  refine zr_aload_n X d_B_init_93 rfl ?_
  refine zr_iconst (v := nI 0) X d_B_init_94 (by decide) ?_
  refine zr_put (fs' := [.ref (q19 1), .ref (q19 3), .ref (q19 5), .ref (q19 8), .ref (q19 9), .int (nI 1), .int (nI 0), .ref (q19 10)]) X F_B_48 d_B_init_95 (by omega) up_eq rfl rfl (Nat.le_of_ble_eq_true rfl) rfl ?_
  refine zr_return Y d_B_init_98 (Nat.le_of_ble_eq_true rfl) (Nat.le_of_ble_eq_true rfl) ?_
  exact ⟨rfl, rfl, (by simp only [e1_0, e3_0, e5_0, e7_0, e9_0, e11_0, e13_0, e15_0, e17_0, e19_0]), up_eq, (up_ne (by decide) (up_ne (by decide) (up_ne (by decide) (up_ne (by decide) (up_ne (by decide) (up_ne (by omega) s18_1)))))), (up_ne (by decide) (up_ne (by decide) (up_ne (by decide) (up_ne (by decide) (up_ne (by decide) (up_ne (by omega) s18_2)))))), (up_ne (by decide) (up_ne (by decide) (up_ne (by decide) (up_ne (by decide) (up_ne (by decide) (up_ne (by omega) s18_3)))))), (up_ne (by decide) (up_ne (by decide) (up_ne (by decide) (up_ne (by decide) (up_ne (by decide) (up_ne (by omega) s18_4)))))), (up_ne (by decide) (up_ne (by decide) (up_ne (by decide) (up_ne (by decide) (up_ne (by decide) (up_ne (by omega) s18_5)))))), (up_ne (by decide) (up_ne (by decide) (up_ne (by decide) (up_ne (by decide) (up_ne (by decide) (up_ne (by omega) s18_6)))))), (up_ne (by decide) (up_ne (by decide) (up_ne (by decide) (up_ne (by decide) (up_ne (by decide) (up_ne (by omega) s18_7)))))), (up_ne (by decide) (up_ne (by decide) up_eq)), (up_ne (by decide) (up_ne (by decide) (up_ne (by decide) (up_ne (by decide) (up_ne (by decide) (up_ne (by omega) s18_9)))))), (up_ne (by decide) (up_ne (by decide) (up_ne (by decide) (up_ne (by decide) up_eq)))), (up_ne (by decide) (up_ne (by decide) (up_ne (by decide) (up_ne (by decide) (up_ne (by decide) up_eq)))))⟩
