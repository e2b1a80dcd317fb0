set_option maxRecDepth 100000 in
set_option maxHeartbeats 4000000 in
theorem c_O_init {l : Launch} {D : va_G} {cI cC cZ cV : ClassId} {q : Nat → Nat} {f : zF} (hf : f 12 = .inr (iO, [.int 0, .null, .null, .null, .null, .null, .int 0, .null, .int 0, .int 0, .null, .null, .int 0, .null, .null, .null, .null])) : zC l y_O_init b_O_init 1 none (rmD 1 12 4790) D (zty cI cC cZ cV) [.ref (q 12)] 13 q f (fun v N' q' f' => v = none ∧ N' = 25 ∧ (∀ jj, jj < 13 → q' jj = q jj) ∧ f' 12 = .inr (iO, [.int (nI 1), .ref (q' 13), .ref (q' 14), .ref (q' 15), .ref (q' 16), .ref (q' 17), .int 0, .ref (q' 18), .int 0, .int 0, .ref (q' 19), .ref (q' 20), .int 0, .ref (q' 21), .ref (q' 22), .ref (q' 23), .ref (q' 24)]) ∧ f' 13 = .inl (cI, 122, .inl (upd (fun _ => 0) 0 (-1))) ∧ f' 14 = .inl (cZ, 122, .inl (fun _ => 0)) ∧ f' 15 = .inl (cI, 122, .inl (fun _ => 0)) ∧ f' 16 = .inl (cI, 122, .inl (fun _ => 0)) ∧ f' 17 = .inl (cI, 122, .inl (fun _ => 0)) ∧ f' 18 = .inl (cC, 2000, .inl (fun _ => 0)) ∧ f' 19 = .inl (cC, 2000, .inl (fun _ => 0)) ∧ f' 20 = .inl (cI, 122, .inl (fun _ => 0)) ∧ f' 21 = .inl (cC, 40, .inl (fun _ => 0)) ∧ f' 22 = .inl (cZ, 6, .inl (fun _ => 0)) ∧ f' 23 = .inl (cI, 6, .inl (fun _ => 0)) ∧ f' 24 = .inl (cZ, 6, .inl (fun _ => 0)) ∧ ∀ jj, jj < 12 → f' jj = f jj) := by
  refine zC.of (by decide) (by simp [Value.category]) (Nat.le_of_ble_eq_true rfl) (fun G X Y => ?_)
  show G 0 0 0 [some (.ref (q 12))] [] 13 q f
  refine zr_aload_n X d_O_init_0 rfl ?_
  refine zr_objInit X OI_O_1 d_O_init_1 (by decide) (Nat.le_of_ble_eq_true rfl) ?_
  refine zr_aload_n X d_O_init_4 rfl ?_
  refine zr_iconst (v := nI 1) X d_O_init_5 (by decide) ?_
  refine zr_put (fs' := [.int (nI 1), .null, .null, .null, .null, .null, .int 0, .null, .int 0, .int 0, .null, .null, .int 0, .null, .null, .null, .null]) X F_O_7 d_O_init_6 (by omega) hf rfl rfl (Nat.le_of_ble_eq_true rfl) rfl ?_
  refine zr_aload_n X d_O_init_9 rfl ?_
  refine zr_bipush (v := nI 122) X d_O_init_10 (by decide) ?_
  obtain ⟨f1, ef1⟩ : ∃ z, z = va_up f 12 (.inr (iO, [.int (nI 1), .null, .null, .null, .null, .null, .int 0, .null, .int 0, .int 0, .null, .null, .int 0, .null, .null, .null, .null])) := ⟨_, rfl⟩
  rw [← ef1]
  have s1_12 : f1 12 = .inr (iO, [.int (nI 1), .null, .null, .null, .null, .null, .int 0, .null, .int 0, .int 0, .null, .null, .int 0, .null, .null, .null, .null]) := by rw [ef1]; exact up_eq
  refine zr_newaI X 0 d_O_init_12 W_arrI rfl (by decide) (by decide) (by decide) (fun a2 => ?_)
  generalize hq2 : va_up q 13 a2 = q2
  have e2_12 : q 12 = q2 12 := by rw [← hq2, up_ne' (by omega)]
  have e2_n : a2 = q2 13 := by rw [← hq2, up_eq]
  try simp only [e2_12]
  rw [e2_n]
  show G (0 + 1) (0 + 122) 14 [some (.ref (q2 12))] [.ref (q2 13), .ref (q2 12)] 14 q2 (va_up f1 13 (.inl (cI, 122, .inl (fun _ => 0))))
  refine zr_put (fs' := [.int (nI 1), .ref (q2 13), .null, .null, .null, .null, .int 0, .null, .int 0, .int 0, .null, .null, .int 0, .null, .null, .null, .null]) X F_O_13 d_O_init_14 (by omega) (up_ne (by omega) s1_12) rfl rfl (Nat.le_of_ble_eq_true rfl) rfl ?_
  refine zr_aload_n X d_O_init_17 rfl ?_
  refine zr_bipush (v := nI 122) X d_O_init_18 (by decide) ?_
  obtain ⟨f3, ef3⟩ : ∃ z, z = va_up (va_up f1 13 (.inl (cI, 122, .inl (fun _ => 0)))) 12 (.inr (iO, [.int (nI 1), .ref (q2 13), .null, .null, .null, .null, .int 0, .null, .int 0, .int 0, .null, .null, .int 0, .null, .null, .null, .null])) := ⟨_, rfl⟩
  rw [← ef3]
  have s3_12 : f3 12 = .inr (iO, [.int (nI 1), .ref (q2 13), .null, .null, .null, .null, .int 0, .null, .int 0, .int 0, .null, .null, .int 0, .null, .null, .null, .null]) := by rw [ef3]; exact up_eq
  have s3_13 : f3 13 = .inl (cI, 122, .inl (fun _ => 0)) := by rw [ef3]; exact (up_ne (by decide) up_eq)
  refine zr_newaZ X 2 d_O_init_20 W_arrZ rfl (by decide) (by decide) (by decide) (fun a4 => ?_)
  generalize hq4 : va_up q2 14 a4 = q4
  have e4_13 : q2 13 = q4 13 := by rw [← hq4, up_ne' (by omega)]
  have e4_12 : q2 12 = q4 12 := by rw [← hq4, up_ne' (by omega)]
  have e4_n : a4 = q4 14 := by rw [← hq4, up_eq]
  simp only [zbo, zrow, zver, e4_13, e4_12] at s3_12
  try simp only [e4_13, e4_12]
  rw [e4_n]
  show G (0 + 1 + 1) (0 + 122 + 122) 22 [some (.ref (q4 12))] [.ref (q4 14), .ref (q4 12)] 15 q4 (va_up f3 14 (.inl (cZ, 122, .inl (fun _ => 0))))
  refine zr_put (fs' := [.int (nI 1), .ref (q4 13), .ref (q4 14), .null, .null, .null, .int 0, .null, .int 0, .int 0, .null, .null, .int 0, .null, .null, .null, .null]) X F_O_17 d_O_init_22 (by omega) (up_ne (by omega) s3_12) rfl rfl (Nat.le_of_ble_eq_true rfl) rfl ?_
  refine zr_aload_n X d_O_init_25 rfl ?_
  refine zr_bipush (v := nI 122) X d_O_init_26 (by decide) ?_
  obtain ⟨f5, ef5⟩ : ∃ z, z = va_up (va_up f3 14 (.inl (cZ, 122, .inl (fun _ => 0)))) 12 (.inr (iO, [.int (nI 1), .ref (q4 13), .ref (q4 14), .null, .null, .null, .int 0, .null, .int 0, .int 0, .null, .null, .int 0, .null, .null, .null, .null])) := ⟨_, rfl⟩
  rw [← ef5]
  have s5_12 : f5 12 = .inr (iO, [.int (nI 1), .ref (q4 13), .ref (q4 14), .null, .null, .null, .int 0, .null, .int 0, .int 0, .null, .null, .int 0, .null, .null, .null, .null]) := by rw [ef5]; exact up_eq
  have s5_13 : f5 13 = .inl (cI, 122, .inl (fun _ => 0)) := by rw [ef5]; exact (up_ne (by decide) (up_ne (by omega) s3_13))
  have s5_14 : f5 14 = .inl (cZ, 122, .inl (fun _ => 0)) := by rw [ef5]; exact (up_ne (by decide) up_eq)
  refine zr_newaI X 0 d_O_init_28 W_arrI rfl (by decide) (by decide) (by decide) (fun a6 => ?_)
  generalize hq6 : va_up q4 15 a6 = q6
  have e6_13 : q4 13 = q6 13 := by rw [← hq6, up_ne' (by omega)]
  have e6_14 : q4 14 = q6 14 := by rw [← hq6, up_ne' (by omega)]
  have e6_12 : q4 12 = q6 12 := by rw [← hq6, up_ne' (by omega)]
  have e6_n : a6 = q6 15 := by rw [← hq6, up_eq]
  simp only [zbo, zrow, zver, e6_13, e6_14, e6_12] at s5_12
  try simp only [e6_13, e6_14, e6_12]
  rw [e6_n]
  show G (0 + 1 + 1 + 1) (0 + 122 + 122 + 122) 30 [some (.ref (q6 12))] [.ref (q6 15), .ref (q6 12)] 16 q6 (va_up f5 15 (.inl (cI, 122, .inl (fun _ => 0))))
  refine zr_put (fs' := [.int (nI 1), .ref (q6 13), .ref (q6 14), .ref (q6 15), .null, .null, .int 0, .null, .int 0, .int 0, .null, .null, .int 0, .null, .null, .null, .null]) X F_O_21 d_O_init_30 (by omega) (up_ne (by omega) s5_12) rfl rfl (Nat.le_of_ble_eq_true rfl) rfl ?_
  refine zr_aload_n X d_O_init_33 rfl ?_
  refine zr_bipush (v := nI 122) X d_O_init_34 (by decide) ?_
  obtain ⟨f7, ef7⟩ : ∃ z, z = va_up (va_up f5 15 (.inl (cI, 122, .inl (fun _ => 0)))) 12 (.inr (iO, [.int (nI 1), .ref (q6 13), .ref (q6 14), .ref (q6 15), .null, .null, .int 0, .null, .int 0, .int 0, .null, .null, .int 0, .null, .null, .null, .null])) := ⟨_, rfl⟩
  rw [← ef7]
  have s7_12 : f7 12 = .inr (iO, [.int (nI 1), .ref (q6 13), .ref (q6 14), .ref (q6 15), .null, .null, .int 0, .null, .int 0, .int 0, .null, .null, .int 0, .null, .null, .null, .null]) := by rw [ef7]; exact up_eq
  have s7_13 : f7 13 = .inl (cI, 122, .inl (fun _ => 0)) := by rw [ef7]; exact (up_ne (by decide) (up_ne (by omega) s5_13))
  have s7_14 : f7 14 = .inl (cZ, 122, .inl (fun _ => 0)) := by rw [ef7]; exact (up_ne (by decide) (up_ne (by omega) s5_14))
  have s7_15 : f7 15 = .inl (cI, 122, .inl (fun _ => 0)) := by rw [ef7]; exact (up_ne (by decide) up_eq)
  refine zr_newaI X 0 d_O_init_36 W_arrI rfl (by decide) (by decide) (by decide) (fun a8 => ?_)
  generalize hq8 : va_up q6 16 a8 = q8
  have e8_13 : q6 13 = q8 13 := by rw [← hq8, up_ne' (by omega)]
  have e8_14 : q6 14 = q8 14 := by rw [← hq8, up_ne' (by omega)]
  have e8_15 : q6 15 = q8 15 := by rw [← hq8, up_ne' (by omega)]
  have e8_12 : q6 12 = q8 12 := by rw [← hq8, up_ne' (by omega)]
  have e8_n : a8 = q8 16 := by rw [← hq8, up_eq]
  simp only [zbo, zrow, zver, e8_13, e8_14, e8_15, e8_12] at s7_12
  try simp only [e8_13, e8_14, e8_15, e8_12]
  rw [e8_n]
  show G (0 + 1 + 1 + 1 + 1) (0 + 122 + 122 + 122 + 122) 38 [some (.ref (q8 12))] [.ref (q8 16), .ref (q8 12)] 17 q8 (va_up f7 16 (.inl (cI, 122, .inl (fun _ => 0))))
  refine zr_put (fs' := [.int (nI 1), .ref (q8 13), .ref (q8 14), .ref (q8 15), .ref (q8 16), .null, .int 0, .null, .int 0, .int 0, .null, .null, .int 0, .null, .null, .null, .null]) X F_O_24 d_O_init_38 (by omega) (up_ne (by omega) s7_12) rfl rfl (Nat.le_of_ble_eq_true rfl) rfl ?_
  refine zr_aload_n X d_O_init_41 rfl ?_
  refine zr_bipush (v := nI 122) X d_O_init_42 (by decide) ?_
  obtain ⟨f9, ef9⟩ : ∃ z, z = va_up (va_up f7 16 (.inl (cI, 122, .inl (fun _ => 0)))) 12 (.inr (iO, [.int (nI 1), .ref (q8 13), .ref (q8 14), .ref (q8 15), .ref (q8 16), .null, .int 0, .null, .int 0, .int 0, .null, .null, .int 0, .null, .null, .null, .null])) := ⟨_, rfl⟩
  rw [← ef9]
  have s9_12 : f9 12 = .inr (iO, [.int (nI 1), .ref (q8 13), .ref (q8 14), .ref (q8 15), .ref (q8 16), .null, .int 0, .null, .int 0, .int 0, .null, .null, .int 0, .null, .null, .null, .null]) := by rw [ef9]; exact up_eq
  have s9_13 : f9 13 = .inl (cI, 122, .inl (fun _ => 0)) := by rw [ef9]; exact (up_ne (by decide) (up_ne (by omega) s7_13))
  have s9_14 : f9 14 = .inl (cZ, 122, .inl (fun _ => 0)) := by rw [ef9]; exact (up_ne (by decide) (up_ne (by omega) s7_14))
  have s9_15 : f9 15 = .inl (cI, 122, .inl (fun _ => 0)) := by rw [ef9]; exact (up_ne (by decide) (up_ne (by omega) s7_15))
  have s9_16 : f9 16 = .inl (cI, 122, .inl (fun _ => 0)) := by rw [ef9]; exact (up_ne (by decide) up_eq)
  refine zr_newaI X 0 d_O_init_44 W_arrI rfl (by decide) (by decide) (by decide) (fun a10 => ?_)
  generalize hq10 : va_up q8 17 a10 = q10
  have e10_13 : q8 13 = q10 13 := by rw [← hq10, up_ne' (by omega)]
  have e10_14 : q8 14 = q10 14 := by rw [← hq10, up_ne' (by omega)]
  have e10_15 : q8 15 = q10 15 := by rw [← hq10, up_ne' (by omega)]
  have e10_16 : q8 16 = q10 16 := by rw [← hq10, up_ne' (by omega)]
  have e10_12 : q8 12 = q10 12 := by rw [← hq10, up_ne' (by omega)]
  have e10_n : a10 = q10 17 := by rw [← hq10, up_eq]
  simp only [zbo, zrow, zver, e10_13, e10_14, e10_15, e10_16, e10_12] at s9_12
  try simp only [e10_13, e10_14, e10_15, e10_16, e10_12]
  rw [e10_n]
  show G (0 + 1 + 1 + 1 + 1 + 1) (0 + 122 + 122 + 122 + 122 + 122) 46 [some (.ref (q10 12))] [.ref (q10 17), .ref (q10 12)] 18 q10 (va_up f9 17 (.inl (cI, 122, .inl (fun _ => 0))))
  refine zr_put (fs' := [.int (nI 1), .ref (q10 13), .ref (q10 14), .ref (q10 15), .ref (q10 16), .ref (q10 17), .int 0, .null, .int 0, .int 0, .null, .null, .int 0, .null, .null, .null, .null]) X F_O_27 d_O_init_46 (by omega) (up_ne (by omega) s9_12) rfl rfl (Nat.le_of_ble_eq_true rfl) rfl ?_
  refine zr_aload_n X d_O_init_49 rfl ?_
  refine zr_sipush (v := nI 2000) X d_O_init_50 (by decide) ?_
  obtain ⟨f11, ef11⟩ : ∃ z, z = va_up (va_up f9 17 (.inl (cI, 122, .inl (fun _ => 0)))) 12 (.inr (iO, [.int (nI 1), .ref (q10 13), .ref (q10 14), .ref (q10 15), .ref (q10 16), .ref (q10 17), .int 0, .null, .int 0, .int 0, .null, .null, .int 0, .null, .null, .null, .null])) := ⟨_, rfl⟩
  rw [← ef11]
  have s11_12 : f11 12 = .inr (iO, [.int (nI 1), .ref (q10 13), .ref (q10 14), .ref (q10 15), .ref (q10 16), .ref (q10 17), .int 0, .null, .int 0, .int 0, .null, .null, .int 0, .null, .null, .null, .null]) := by rw [ef11]; exact up_eq
  have s11_13 : f11 13 = .inl (cI, 122, .inl (fun _ => 0)) := by rw [ef11]; exact (up_ne (by decide) (up_ne (by omega) s9_13))
  have s11_14 : f11 14 = .inl (cZ, 122, .inl (fun _ => 0)) := by rw [ef11]; exact (up_ne (by decide) (up_ne (by omega) s9_14))
  have s11_15 : f11 15 = .inl (cI, 122, .inl (fun _ => 0)) := by rw [ef11]; exact (up_ne (by decide) (up_ne (by omega) s9_15))
  have s11_16 : f11 16 = .inl (cI, 122, .inl (fun _ => 0)) := by rw [ef11]; exact (up_ne (by decide) (up_ne (by omega) s9_16))
  have s11_17 : f11 17 = .inl (cI, 122, .inl (fun _ => 0)) := by rw [ef11]; exact (up_ne (by decide) up_eq)
  refine zr_newaC X 1 d_O_init_53 W_arrC rfl (by decide) (by decide) (by decide) (fun a12 => ?_)
  generalize hq12 : va_up q10 18 a12 = q12
  have e12_13 : q10 13 = q12 13 := by rw [← hq12, up_ne' (by omega)]
  have e12_14 : q10 14 = q12 14 := by rw [← hq12, up_ne' (by omega)]
  have e12_15 : q10 15 = q12 15 := by rw [← hq12, up_ne' (by omega)]
  have e12_16 : q10 16 = q12 16 := by rw [← hq12, up_ne' (by omega)]
  have e12_17 : q10 17 = q12 17 := by rw [← hq12, up_ne' (by omega)]
  have e12_12 : q10 12 = q12 12 := by rw [← hq12, up_ne' (by omega)]
  have e12_n : a12 = q12 18 := by rw [← hq12, up_eq]
  simp only [zbo, zrow, zver, e12_13, e12_14, e12_15, e12_16, e12_17, e12_12] at s11_12
  try simp only [e12_13, e12_14, e12_15, e12_16, e12_17, e12_12]
  rw [e12_n]
  show G (0 + 1 + 1 + 1 + 1 + 1 + 1) (0 + 122 + 122 + 122 + 122 + 122 + 2000) 55 [some (.ref (q12 12))] [.ref (q12 18), .ref (q12 12)] 19 q12 (va_up f11 18 (.inl (cC, 2000, .inl (fun _ => 0))))
  refine zr_put (fs' := [.int (nI 1), .ref (q12 13), .ref (q12 14), .ref (q12 15), .ref (q12 16), .ref (q12 17), .int 0, .ref (q12 18), .int 0, .int 0, .null, .null, .int 0, .null, .null, .null, .null]) X F_O_30 d_O_init_55 (by omega) (up_ne (by omega) s11_12) rfl rfl (Nat.le_of_ble_eq_true rfl) rfl ?_
  refine zr_aload_n X d_O_init_58 rfl ?_
  refine zr_sipush (v := nI 2000) X d_O_init_59 (by decide) ?_
  obtain ⟨f13, ef13⟩ : ∃ z, z = va_up (va_up f11 18 (.inl (cC, 2000, .inl (fun _ => 0)))) 12 (.inr (iO, [.int (nI 1), .ref (q12 13), .ref (q12 14), .ref (q12 15), .ref (q12 16), .ref (q12 17), .int 0, .ref (q12 18), .int 0, .int 0, .null, .null, .int 0, .null, .null, .null, .null])) := ⟨_, rfl⟩
  rw [← ef13]
  have s13_12 : f13 12 = .inr (iO, [.int (nI 1), .ref (q12 13), .ref (q12 14), .ref (q12 15), .ref (q12 16), .ref (q12 17), .int 0, .ref (q12 18), .int 0, .int 0, .null, .null, .int 0, .null, .null, .null, .null]) := by rw [ef13]; exact up_eq
  have s13_13 : f13 13 = .inl (cI, 122, .inl (fun _ => 0)) := by rw [ef13]; exact (up_ne (by decide) (up_ne (by omega) s11_13))
  have s13_14 : f13 14 = .inl (cZ, 122, .inl (fun _ => 0)) := by rw [ef13]; exact (up_ne (by decide) (up_ne (by omega) s11_14))
  have s13_15 : f13 15 = .inl (cI, 122, .inl (fun _ => 0)) := by rw [ef13]; exact (up_ne (by decide) (up_ne (by omega) s11_15))
  have s13_16 : f13 16 = .inl (cI, 122, .inl (fun _ => 0)) := by rw [ef13]; exact (up_ne (by decide) (up_ne (by omega) s11_16))
  have s13_17 : f13 17 = .inl (cI, 122, .inl (fun _ => 0)) := by rw [ef13]; exact (up_ne (by decide) (up_ne (by omega) s11_17))
  have s13_18 : f13 18 = .inl (cC, 2000, .inl (fun _ => 0)) := by rw [ef13]; exact (up_ne (by decide) up_eq)
  refine zr_newaC X 1 d_O_init_62 W_arrC rfl (by decide) (by decide) (by decide) (fun a14 => ?_)
  generalize hq14 : va_up q12 19 a14 = q14
  have e14_13 : q12 13 = q14 13 := by rw [← hq14, up_ne' (by omega)]
  have e14_14 : q12 14 = q14 14 := by rw [← hq14, up_ne' (by omega)]
  have e14_15 : q12 15 = q14 15 := by rw [← hq14, up_ne' (by omega)]
  have e14_16 : q12 16 = q14 16 := by rw [← hq14, up_ne' (by omega)]
  have e14_17 : q12 17 = q14 17 := by rw [← hq14, up_ne' (by omega)]
  have e14_18 : q12 18 = q14 18 := by rw [← hq14, up_ne' (by omega)]
  have e14_12 : q12 12 = q14 12 := by rw [← hq14, up_ne' (by omega)]
  have e14_n : a14 = q14 19 := by rw [← hq14, up_eq]
  simp only [zbo, zrow, zver, e14_13, e14_14, e14_15, e14_16, e14_17, e14_18, e14_12] at s13_12
  try simp only [e14_13, e14_14, e14_15, e14_16, e14_17, e14_18, e14_12]
  rw [e14_n]
  show G (0 + 1 + 1 + 1 + 1 + 1 + 1 + 1) (0 + 122 + 122 + 122 + 122 + 122 + 2000 + 2000) 64 [some (.ref (q14 12))] [.ref (q14 19), .ref (q14 12)] 20 q14 (va_up f13 19 (.inl (cC, 2000, .inl (fun _ => 0))))
  refine zr_put (fs' := [.int (nI 1), .ref (q14 13), .ref (q14 14), .ref (q14 15), .ref (q14 16), .ref (q14 17), .int 0, .ref (q14 18), .int 0, .int 0, .ref (q14 19), .null, .int 0, .null, .null, .null, .null]) X F_O_34 d_O_init_64 (by omega) (up_ne (by omega) s13_12) rfl rfl (Nat.le_of_ble_eq_true rfl) rfl ?_
  refine zr_aload_n X d_O_init_67 rfl ?_
  refine zr_bipush (v := nI 122) X d_O_init_68 (by decide) ?_
  obtain ⟨f15, ef15⟩ : ∃ z, z = va_up (va_up f13 19 (.inl (cC, 2000, .inl (fun _ => 0)))) 12 (.inr (iO, [.int (nI 1), .ref (q14 13), .ref (q14 14), .ref (q14 15), .ref (q14 16), .ref (q14 17), .int 0, .ref (q14 18), .int 0, .int 0, .ref (q14 19), .null, .int 0, .null, .null, .null, .null])) := ⟨_, rfl⟩
  rw [← ef15]
  have s15_12 : f15 12 = .inr (iO, [.int (nI 1), .ref (q14 13), .ref (q14 14), .ref (q14 15), .ref (q14 16), .ref (q14 17), .int 0, .ref (q14 18), .int 0, .int 0, .ref (q14 19), .null, .int 0, .null, .null, .null, .null]) := by rw [ef15]; exact up_eq
  have s15_13 : f15 13 = .inl (cI, 122, .inl (fun _ => 0)) := by rw [ef15]; exact (up_ne (by decide) (up_ne (by omega) s13_13))
  have s15_14 : f15 14 = .inl (cZ, 122, .inl (fun _ => 0)) := by rw [ef15]; exact (up_ne (by decide) (up_ne (by omega) s13_14))
  have s15_15 : f15 15 = .inl (cI, 122, .inl (fun _ => 0)) := by rw [ef15]; exact (up_ne (by decide) (up_ne (by omega) s13_15))
  have s15_16 : f15 16 = .inl (cI, 122, .inl (fun _ => 0)) := by rw [ef15]; exact (up_ne (by decide) (up_ne (by omega) s13_16))
  have s15_17 : f15 17 = .inl (cI, 122, .inl (fun _ => 0)) := by rw [ef15]; exact (up_ne (by decide) (up_ne (by omega) s13_17))
  have s15_18 : f15 18 = .inl (cC, 2000, .inl (fun _ => 0)) := by rw [ef15]; exact (up_ne (by decide) (up_ne (by omega) s13_18))
  have s15_19 : f15 19 = .inl (cC, 2000, .inl (fun _ => 0)) := by rw [ef15]; exact (up_ne (by decide) up_eq)
  refine zr_newaI X 0 d_O_init_70 W_arrI rfl (by decide) (by decide) (by decide) (fun a16 => ?_)
  generalize hq16 : va_up q14 20 a16 = q16
  have e16_13 : q14 13 = q16 13 := by rw [← hq16, up_ne' (by omega)]
  have e16_14 : q14 14 = q16 14 := by rw [← hq16, up_ne' (by omega)]
  have e16_15 : q14 15 = q16 15 := by rw [← hq16, up_ne' (by omega)]
  have e16_16 : q14 16 = q16 16 := by rw [← hq16, up_ne' (by omega)]
  have e16_17 : q14 17 = q16 17 := by rw [← hq16, up_ne' (by omega)]
  have e16_18 : q14 18 = q16 18 := by rw [← hq16, up_ne' (by omega)]
  have e16_19 : q14 19 = q16 19 := by rw [← hq16, up_ne' (by omega)]
  have e16_12 : q14 12 = q16 12 := by rw [← hq16, up_ne' (by omega)]
  have e16_n : a16 = q16 20 := by rw [← hq16, up_eq]
  simp only [zbo, zrow, zver, e16_13, e16_14, e16_15, e16_16, e16_17, e16_18, e16_19, e16_12] at s15_12
  try simp only [e16_13, e16_14, e16_15, e16_16, e16_17, e16_18, e16_19, e16_12]
  rw [e16_n]
  show G (0 + 1 + 1 + 1 + 1 + 1 + 1 + 1 + 1) (0 + 122 + 122 + 122 + 122 + 122 + 2000 + 2000 + 122) 72 [some (.ref (q16 12))] [.ref (q16 20), .ref (q16 12)] 21 q16 (va_up f15 20 (.inl (cI, 122, .inl (fun _ => 0))))
  refine zr_put (fs' := [.int (nI 1), .ref (q16 13), .ref (q16 14), .ref (q16 15), .ref (q16 16), .ref (q16 17), .int 0, .ref (q16 18), .int 0, .int 0, .ref (q16 19), .ref (q16 20), .int 0, .null, .null, .null, .null]) X F_O_37 d_O_init_72 (by omega) (up_ne (by omega) s15_12) rfl rfl (Nat.le_of_ble_eq_true rfl) rfl ?_
  refine zr_aload_n X d_O_init_75 rfl ?_
  refine zr_bipush (v := nI 40) X d_O_init_76 (by decide) ?_
  obtain ⟨f17, ef17⟩ : ∃ z, z = va_up (va_up f15 20 (.inl (cI, 122, .inl (fun _ => 0)))) 12 (.inr (iO, [.int (nI 1), .ref (q16 13), .ref (q16 14), .ref (q16 15), .ref (q16 16), .ref (q16 17), .int 0, .ref (q16 18), .int 0, .int 0, .ref (q16 19), .ref (q16 20), .int 0, .null, .null, .null, .null])) := ⟨_, rfl⟩
  rw [← ef17]
  have s17_12 : f17 12 = .inr (iO, [.int (nI 1), .ref (q16 13), .ref (q16 14), .ref (q16 15), .ref (q16 16), .ref (q16 17), .int 0, .ref (q16 18), .int 0, .int 0, .ref (q16 19), .ref (q16 20), .int 0, .null, .null, .null, .null]) := by rw [ef17]; exact up_eq
  have s17_13 : f17 13 = .inl (cI, 122, .inl (fun _ => 0)) := by rw [ef17]; exact (up_ne (by decide) (up_ne (by omega) s15_13))
  have s17_14 : f17 14 = .inl (cZ, 122, .inl (fun _ => 0)) := by rw [ef17]; exact (up_ne (by decide) (up_ne (by omega) s15_14))
  have s17_15 : f17 15 = .inl (cI, 122, .inl (fun _ => 0)) := by rw [ef17]; exact (up_ne (by decide) (up_ne (by omega) s15_15))
  have s17_16 : f17 16 = .inl (cI, 122, .inl (fun _ => 0)) := by rw [ef17]; exact (up_ne (by decide) (up_ne (by omega) s15_16))
  have s17_17 : f17 17 = .inl (cI, 122, .inl (fun _ => 0)) := by rw [ef17]; exact (up_ne (by decide) (up_ne (by omega) s15_17))
  have s17_18 : f17 18 = .inl (cC, 2000, .inl (fun _ => 0)) := by rw [ef17]; exact (up_ne (by decide) (up_ne (by omega) s15_18))
  have s17_19 : f17 19 = .inl (cC, 2000, .inl (fun _ => 0)) := by rw [ef17]; exact (up_ne (by decide) (up_ne (by omega) s15_19))
  have s17_20 : f17 20 = .inl (cI, 122, .inl (fun _ => 0)) := by rw [ef17]; exact (up_ne (by decide) up_eq)
  refine zr_newaC X 1 d_O_init_78 W_arrC rfl (by decide) (by decide) (by decide) (fun a18 => ?_)
  generalize hq18 : va_up q16 21 a18 = q18
  have e18_13 : q16 13 = q18 13 := by rw [← hq18, up_ne' (by omega)]
  have e18_14 : q16 14 = q18 14 := by rw [← hq18, up_ne' (by omega)]
  have e18_15 : q16 15 = q18 15 := by rw [← hq18, up_ne' (by omega)]
  have e18_16 : q16 16 = q18 16 := by rw [← hq18, up_ne' (by omega)]
  have e18_17 : q16 17 = q18 17 := by rw [← hq18, up_ne' (by omega)]
  have e18_18 : q16 18 = q18 18 := by rw [← hq18, up_ne' (by omega)]
  have e18_19 : q16 19 = q18 19 := by rw [← hq18, up_ne' (by omega)]
  have e18_20 : q16 20 = q18 20 := by rw [← hq18, up_ne' (by omega)]
  have e18_12 : q16 12 = q18 12 := by rw [← hq18, up_ne' (by omega)]
  have e18_n : a18 = q18 21 := by rw [← hq18, up_eq]
  simp only [zbo, zrow, zver, e18_13, e18_14, e18_15, e18_16, e18_17, e18_18, e18_19, e18_20, e18_12] at s17_12
  try simp only [e18_13, e18_14, e18_15, e18_16, e18_17, e18_18, e18_19, e18_20, e18_12]
  rw [e18_n]
  show G (0 + 1 + 1 + 1 + 1 + 1 + 1 + 1 + 1 + 1) (0 + 122 + 122 + 122 + 122 + 122 + 2000 + 2000 + 122 + 40) 80 [some (.ref (q18 12))] [.ref (q18 21), .ref (q18 12)] 22 q18 (va_up f17 21 (.inl (cC, 40, .inl (fun _ => 0))))
  refine zr_put (fs' := [.int (nI 1), .ref (q18 13), .ref (q18 14), .ref (q18 15), .ref (q18 16), .ref (q18 17), .int 0, .ref (q18 18), .int 0, .int 0, .ref (q18 19), .ref (q18 20), .int 0, .ref (q18 21), .null, .null, .null]) X F_O_40 d_O_init_80 (by omega) (up_ne (by omega) s17_12) rfl rfl (Nat.le_of_ble_eq_true rfl) rfl ?_
  refine zr_aload_n X d_O_init_83 rfl ?_
  refine zr_bipush (v := nI 6) X d_O_init_84 (by decide) ?_
  obtain ⟨f19, ef19⟩ : ∃ z, z = va_up (va_up f17 21 (.inl (cC, 40, .inl (fun _ => 0)))) 12 (.inr (iO, [.int (nI 1), .ref (q18 13), .ref (q18 14), .ref (q18 15), .ref (q18 16), .ref (q18 17), .int 0, .ref (q18 18), .int 0, .int 0, .ref (q18 19), .ref (q18 20), .int 0, .ref (q18 21), .null, .null, .null])) := ⟨_, rfl⟩
  rw [← ef19]
  have s19_12 : f19 12 = .inr (iO, [.int (nI 1), .ref (q18 13), .ref (q18 14), .ref (q18 15), .ref (q18 16), .ref (q18 17), .int 0, .ref (q18 18), .int 0, .int 0, .ref (q18 19), .ref (q18 20), .int 0, .ref (q18 21), .null, .null, .null]) := by rw [ef19]; exact up_eq
  have s19_13 : f19 13 = .inl (cI, 122, .inl (fun _ => 0)) := by rw [ef19]; exact (up_ne (by decide) (up_ne (by omega) s17_13))
  have s19_14 : f19 14 = .inl (cZ, 122, .inl (fun _ => 0)) := by rw [ef19]; exact (up_ne (by decide) (up_ne (by omega) s17_14))
  have s19_15 : f19 15 = .inl (cI, 122, .inl (fun _ => 0)) := by rw [ef19]; exact (up_ne (by decide) (up_ne (by omega) s17_15))
  have s19_16 : f19 16 = .inl (cI, 122, .inl (fun _ => 0)) := by rw [ef19]; exact (up_ne (by decide) (up_ne (by omega) s17_16))
  have s19_17 : f19 17 = .inl (cI, 122, .inl (fun _ => 0)) := by rw [ef19]; exact (up_ne (by decide) (up_ne (by omega) s17_17))
  have s19_18 : f19 18 = .inl (cC, 2000, .inl (fun _ => 0)) := by rw [ef19]; exact (up_ne (by decide) (up_ne (by omega) s17_18))
  have s19_19 : f19 19 = .inl (cC, 2000, .inl (fun _ => 0)) := by rw [ef19]; exact (up_ne (by decide) (up_ne (by omega) s17_19))
  have s19_20 : f19 20 = .inl (cI, 122, .inl (fun _ => 0)) := by rw [ef19]; exact (up_ne (by decide) (up_ne (by omega) s17_20))
  have s19_21 : f19 21 = .inl (cC, 40, .inl (fun _ => 0)) := by rw [ef19]; exact (up_ne (by decide) up_eq)
  refine zr_newaZ X 2 d_O_init_86 W_arrZ rfl (by decide) (by decide) (by decide) (fun a20 => ?_)
  generalize hq20 : va_up q18 22 a20 = q20
  have e20_13 : q18 13 = q20 13 := by rw [← hq20, up_ne' (by omega)]
  have e20_14 : q18 14 = q20 14 := by rw [← hq20, up_ne' (by omega)]
  have e20_15 : q18 15 = q20 15 := by rw [← hq20, up_ne' (by omega)]
  have e20_16 : q18 16 = q20 16 := by rw [← hq20, up_ne' (by omega)]
  have e20_17 : q18 17 = q20 17 := by rw [← hq20, up_ne' (by omega)]
  have e20_18 : q18 18 = q20 18 := by rw [← hq20, up_ne' (by omega)]
  have e20_19 : q18 19 = q20 19 := by rw [← hq20, up_ne' (by omega)]
  have e20_20 : q18 20 = q20 20 := by rw [← hq20, up_ne' (by omega)]
  have e20_21 : q18 21 = q20 21 := by rw [← hq20, up_ne' (by omega)]
  have e20_12 : q18 12 = q20 12 := by rw [← hq20, up_ne' (by omega)]
  have e20_n : a20 = q20 22 := by rw [← hq20, up_eq]
  simp only [zbo, zrow, zver, e20_13, e20_14, e20_15, e20_16, e20_17, e20_18, e20_19, e20_20, e20_21, e20_12] at s19_12
  try simp only [e20_13, e20_14, e20_15, e20_16, e20_17, e20_18, e20_19, e20_20, e20_21, e20_12]
  rw [e20_n]
  show G (0 + 1 + 1 + 1 + 1 + 1 + 1 + 1 + 1 + 1 + 1) (0 + 122 + 122 + 122 + 122 + 122 + 2000 + 2000 + 122 + 40 + 6) 88 [some (.ref (q20 12))] [.ref (q20 22), .ref (q20 12)] 23 q20 (va_up f19 22 (.inl (cZ, 6, .inl (fun _ => 0))))
  refine zr_put (fs' := [.int (nI 1), .ref (q20 13), .ref (q20 14), .ref (q20 15), .ref (q20 16), .ref (q20 17), .int 0, .ref (q20 18), .int 0, .int 0, .ref (q20 19), .ref (q20 20), .int 0, .ref (q20 21), .ref (q20 22), .null, .null]) X F_O_43 d_O_init_88 (by omega) (up_ne (by omega) s19_12) rfl rfl (Nat.le_of_ble_eq_true rfl) rfl ?_
  refine zr_aload_n X d_O_init_91 rfl ?_
  refine zr_bipush (v := nI 6) X d_O_init_92 (by decide) ?_
  obtain ⟨f21, ef21⟩ : ∃ z, z = va_up (va_up f19 22 (.inl (cZ, 6, .inl (fun _ => 0)))) 12 (.inr (iO, [.int (nI 1), .ref (q20 13), .ref (q20 14), .ref (q20 15), .ref (q20 16), .ref (q20 17), .int 0, .ref (q20 18), .int 0, .int 0, .ref (q20 19), .ref (q20 20), .int 0, .ref (q20 21), .ref (q20 22), .null, .null])) := ⟨_, rfl⟩
  rw [← ef21]
  have s21_12 : f21 12 = .inr (iO, [.int (nI 1), .ref (q20 13), .ref (q20 14), .ref (q20 15), .ref (q20 16), .ref (q20 17), .int 0, .ref (q20 18), .int 0, .int 0, .ref (q20 19), .ref (q20 20), .int 0, .ref (q20 21), .ref (q20 22), .null, .null]) := by rw [ef21]; exact up_eq
  have s21_13 : f21 13 = .inl (cI, 122, .inl (fun _ => 0)) := by rw [ef21]; exact (up_ne (by decide) (up_ne (by omega) s19_13))
  have s21_14 : f21 14 = .inl (cZ, 122, .inl (fun _ => 0)) := by rw [ef21]; exact (up_ne (by decide) (up_ne (by omega) s19_14))
  have s21_15 : f21 15 = .inl (cI, 122, .inl (fun _ => 0)) := by rw [ef21]; exact (up_ne (by decide) (up_ne (by omega) s19_15))
  have s21_16 : f21 16 = .inl (cI, 122, .inl (fun _ => 0)) := by rw [ef21]; exact (up_ne (by decide) (up_ne (by omega) s19_16))
  have s21_17 : f21 17 = .inl (cI, 122, .inl (fun _ => 0)) := by rw [ef21]; exact (up_ne (by decide) (up_ne (by omega) s19_17))
  have s21_18 : f21 18 = .inl (cC, 2000, .inl (fun _ => 0)) := by rw [ef21]; exact (up_ne (by decide) (up_ne (by omega) s19_18))
  have s21_19 : f21 19 = .inl (cC, 2000, .inl (fun _ => 0)) := by rw [ef21]; exact (up_ne (by decide) (up_ne (by omega) s19_19))
  have s21_20 : f21 20 = .inl (cI, 122, .inl (fun _ => 0)) := by rw [ef21]; exact (up_ne (by decide) (up_ne (by omega) s19_20))
  have s21_21 : f21 21 = .inl (cC, 40, .inl (fun _ => 0)) := by rw [ef21]; exact (up_ne (by decide) (up_ne (by omega) s19_21))
  have s21_22 : f21 22 = .inl (cZ, 6, .inl (fun _ => 0)) := by rw [ef21]; exact (up_ne (by decide) up_eq)
  refine zr_newaI X 0 d_O_init_94 W_arrI rfl (by decide) (by decide) (by decide) (fun a22 => ?_)
  generalize hq22 : va_up q20 23 a22 = q22
  have e22_13 : q20 13 = q22 13 := by rw [← hq22, up_ne' (by omega)]
  have e22_14 : q20 14 = q22 14 := by rw [← hq22, up_ne' (by omega)]
  have e22_15 : q20 15 = q22 15 := by rw [← hq22, up_ne' (by omega)]
  have e22_16 : q20 16 = q22 16 := by rw [← hq22, up_ne' (by omega)]
  have e22_17 : q20 17 = q22 17 := by rw [← hq22, up_ne' (by omega)]
  have e22_18 : q20 18 = q22 18 := by rw [← hq22, up_ne' (by omega)]
  have e22_19 : q20 19 = q22 19 := by rw [← hq22, up_ne' (by omega)]
  have e22_20 : q20 20 = q22 20 := by rw [← hq22, up_ne' (by omega)]
  have e22_21 : q20 21 = q22 21 := by rw [← hq22, up_ne' (by omega)]
  have e22_22 : q20 22 = q22 22 := by rw [← hq22, up_ne' (by omega)]
  have e22_12 : q20 12 = q22 12 := by rw [← hq22, up_ne' (by omega)]
  have e22_n : a22 = q22 23 := by rw [← hq22, up_eq]
  simp only [zbo, zrow, zver, e22_13, e22_14, e22_15, e22_16, e22_17, e22_18, e22_19, e22_20, e22_21, e22_22, e22_12] at s21_12
  try simp only [e22_13, e22_14, e22_15, e22_16, e22_17, e22_18, e22_19, e22_20, e22_21, e22_22, e22_12]
  rw [e22_n]
  show G (0 + 1 + 1 + 1 + 1 + 1 + 1 + 1 + 1 + 1 + 1 + 1) (0 + 122 + 122 + 122 + 122 + 122 + 2000 + 2000 + 122 + 40 + 6 + 6) 96 [some (.ref (q22 12))] [.ref (q22 23), .ref (q22 12)] 24 q22 (va_up f21 23 (.inl (cI, 6, .inl (fun _ => 0))))
  refine zr_put (fs' := [.int (nI 1), .ref (q22 13), .ref (q22 14), .ref (q22 15), .ref (q22 16), .ref (q22 17), .int 0, .ref (q22 18), .int 0, .int 0, .ref (q22 19), .ref (q22 20), .int 0, .ref (q22 21), .ref (q22 22), .ref (q22 23), .null]) X F_O_46 d_O_init_96 (by omega) (up_ne (by omega) s21_12) rfl rfl (Nat.le_of_ble_eq_true rfl) rfl ?_
  refine zr_aload_n X d_O_init_99 rfl ?_
  refine zr_bipush (v := nI 6) X d_O_init_100 (by decide) ?_
  obtain ⟨f23, ef23⟩ : ∃ z, z = va_up (va_up f21 23 (.inl (cI, 6, .inl (fun _ => 0)))) 12 (.inr (iO, [.int (nI 1), .ref (q22 13), .ref (q22 14), .ref (q22 15), .ref (q22 16), .ref (q22 17), .int 0, .ref (q22 18), .int 0, .int 0, .ref (q22 19), .ref (q22 20), .int 0, .ref (q22 21), .ref (q22 22), .ref (q22 23), .null])) := ⟨_, rfl⟩
  rw [← ef23]
  have s23_12 : f23 12 = .inr (iO, [.int (nI 1), .ref (q22 13), .ref (q22 14), .ref (q22 15), .ref (q22 16), .ref (q22 17), .int 0, .ref (q22 18), .int 0, .int 0, .ref (q22 19), .ref (q22 20), .int 0, .ref (q22 21), .ref (q22 22), .ref (q22 23), .null]) := by rw [ef23]; exact up_eq
  have s23_13 : f23 13 = .inl (cI, 122, .inl (fun _ => 0)) := by rw [ef23]; exact (up_ne (by decide) (up_ne (by omega) s21_13))
  have s23_14 : f23 14 = .inl (cZ, 122, .inl (fun _ => 0)) := by rw [ef23]; exact (up_ne (by decide) (up_ne (by omega) s21_14))
  have s23_15 : f23 15 = .inl (cI, 122, .inl (fun _ => 0)) := by rw [ef23]; exact (up_ne (by decide) (up_ne (by omega) s21_15))
  have s23_16 : f23 16 = .inl (cI, 122, .inl (fun _ => 0)) := by rw [ef23]; exact (up_ne (by decide) (up_ne (by omega) s21_16))
  have s23_17 : f23 17 = .inl (cI, 122, .inl (fun _ => 0)) := by rw [ef23]; exact (up_ne (by decide) (up_ne (by omega) s21_17))
  have s23_18 : f23 18 = .inl (cC, 2000, .inl (fun _ => 0)) := by rw [ef23]; exact (up_ne (by decide) (up_ne (by omega) s21_18))
  have s23_19 : f23 19 = .inl (cC, 2000, .inl (fun _ => 0)) := by rw [ef23]; exact (up_ne (by decide) (up_ne (by omega) s21_19))
  have s23_20 : f23 20 = .inl (cI, 122, .inl (fun _ => 0)) := by rw [ef23]; exact (up_ne (by decide) (up_ne (by omega) s21_20))
  have s23_21 : f23 21 = .inl (cC, 40, .inl (fun _ => 0)) := by rw [ef23]; exact (up_ne (by decide) (up_ne (by omega) s21_21))
  have s23_22 : f23 22 = .inl (cZ, 6, .inl (fun _ => 0)) := by rw [ef23]; exact (up_ne (by decide) (up_ne (by omega) s21_22))
  have s23_23 : f23 23 = .inl (cI, 6, .inl (fun _ => 0)) := by rw [ef23]; exact (up_ne (by decide) up_eq)
  refine zr_newaZ X 2 d_O_init_102 W_arrZ rfl (by decide) (by decide) (by decide) (fun a24 => ?_)
  generalize hq24 : va_up q22 24 a24 = q24
  have e24_13 : q22 13 = q24 13 := by rw [← hq24, up_ne' (by omega)]
  have e24_14 : q22 14 = q24 14 := by rw [← hq24, up_ne' (by omega)]
  have e24_15 : q22 15 = q24 15 := by rw [← hq24, up_ne' (by omega)]
  have e24_16 : q22 16 = q24 16 := by rw [← hq24, up_ne' (by omega)]
  have e24_17 : q22 17 = q24 17 := by rw [← hq24, up_ne' (by omega)]
  have e24_18 : q22 18 = q24 18 := by rw [← hq24, up_ne' (by omega)]
  have e24_19 : q22 19 = q24 19 := by rw [← hq24, up_ne' (by omega)]
  have e24_20 : q22 20 = q24 20 := by rw [← hq24, up_ne' (by omega)]
  have e24_21 : q22 21 = q24 21 := by rw [← hq24, up_ne' (by omega)]
  have e24_22 : q22 22 = q24 22 := by rw [← hq24, up_ne' (by omega)]
  have e24_23 : q22 23 = q24 23 := by rw [← hq24, up_ne' (by omega)]
  have e24_12 : q22 12 = q24 12 := by rw [← hq24, up_ne' (by omega)]
  have e24_n : a24 = q24 24 := by rw [← hq24, up_eq]
  simp only [zbo, zrow, zver, e24_13, e24_14, e24_15, e24_16, e24_17, e24_18, e24_19, e24_20, e24_21, e24_22, e24_23, e24_12] at s23_12
  try simp only [e24_13, e24_14, e24_15, e24_16, e24_17, e24_18, e24_19, e24_20, e24_21, e24_22, e24_23, e24_12]
  rw [e24_n]
  show G (0 + 1 + 1 + 1 + 1 + 1 + 1 + 1 + 1 + 1 + 1 + 1 + 1) (0 + 122 + 122 + 122 + 122 + 122 + 2000 + 2000 + 122 + 40 + 6 + 6 + 6) 104 [some (.ref (q24 12))] [.ref (q24 24), .ref (q24 12)] 25 q24 (va_up f23 24 (.inl (cZ, 6, .inl (fun _ => 0))))
  refine zr_put (fs' := [.int (nI 1), .ref (q24 13), .ref (q24 14), .ref (q24 15), .ref (q24 16), .ref (q24 17), .int 0, .ref (q24 18), .int 0, .int 0, .ref (q24 19), .ref (q24 20), .int 0, .ref (q24 21), .ref (q24 22), .ref (q24 23), .ref (q24 24)]) X F_O_49 d_O_init_104 (by omega) (up_ne (by omega) s23_12) rfl rfl (Nat.le_of_ble_eq_true rfl) rfl ?_
  refine zr_aload_n X d_O_init_107 rfl ?_
  refine zr_get X F_O_13 d_O_init_108 (by omega) up_eq (v := .ref (q24 13)) rfl ?_
  refine zr_iconst (v := nI 0) X d_O_init_111 (by decide) ?_
  refine zr_iconst (v := (-1)) X d_O_init_112 (by decide) ?_
  refine zr_iastore X 0 d_O_init_113 (by omega) (up_ne (by decide) (up_ne (by omega) s23_13)) rfl (by omega) (by decide) ?_
  refine zr_return Y d_O_init_114 (Nat.le_of_ble_eq_true rfl) (Nat.le_of_ble_eq_true rfl) ?_
  exact ⟨rfl, rfl, fun jj k1 => by rw [← hq24, up_ne' (by omega), ← hq22, up_ne' (by omega), ← hq20, up_ne' (by omega), ← hq18, up_ne' (by omega), ← hq16, up_ne' (by omega), ← hq14, up_ne' (by omega), ← hq12, up_ne' (by omega), ← hq10, up_ne' (by omega), ← hq8, up_ne' (by omega), ← hq6, up_ne' (by omega), ← hq4, up_ne' (by omega), ← hq2, up_ne' (by omega)], (up_ne (by decide) up_eq), up_eq, (up_ne (by decide) (up_ne (by decide) (up_ne (by omega) s23_14))), (up_ne (by decide) (up_ne (by decide) (up_ne (by omega) s23_15))), (up_ne (by decide) (up_ne (by decide) (up_ne (by omega) s23_16))), (up_ne (by decide) (up_ne (by decide) (up_ne (by omega) s23_17))), (up_ne (by decide) (up_ne (by decide) (up_ne (by omega) s23_18))), (up_ne (by decide) (up_ne (by decide) (up_ne (by omega) s23_19))), (up_ne (by decide) (up_ne (by decide) (up_ne (by omega) s23_20))), (up_ne (by decide) (up_ne (by decide) (up_ne (by omega) s23_21))), (up_ne (by decide) (up_ne (by decide) (up_ne (by omega) s23_22))), (up_ne (by decide) (up_ne (by decide) (up_ne (by omega) s23_23))), (up_ne (by decide) (up_ne (by decide) up_eq)), fun jj k1 => (up_ne (by omega) (up_ne (by omega) (up_ne (by omega) (show f23 jj = f jj by rw [ef23]; exact (up_ne (by omega) (up_ne (by omega) (show f21 jj = f jj by rw [ef21]; exact (up_ne (by omega) (up_ne (by omega) (show f19 jj = f jj by rw [ef19]; exact (up_ne (by omega) (up_ne (by omega) (show f17 jj = f jj by rw [ef17]; exact (up_ne (by omega) (up_ne (by omega) (show f15 jj = f jj by rw [ef15]; exact (up_ne (by omega) (up_ne (by omega) (show f13 jj = f jj by rw [ef13]; exact (up_ne (by omega) (up_ne (by omega) (show f11 jj = f jj by rw [ef11]; exact (up_ne (by omega) (up_ne (by omega) (show f9 jj = f jj by rw [ef9]; exact (up_ne (by omega) (up_ne (by omega) (show f7 jj = f jj by rw [ef7]; exact (up_ne (by omega) (up_ne (by omega) (show f5 jj = f jj by rw [ef5]; exact (up_ne (by omega) (up_ne (by omega) (show f3 jj = f jj by rw [ef3]; exact (up_ne (by omega) (up_ne (by omega) (show f1 jj = f jj by rw [ef1]; exact (up_ne (by omega) rfl))))))))))))))))))))))))))))))))))))))⟩
