/-- the class's own cell -/
abbrev zbo (q : Nat → Nat) (n ins jt : Nat) : va_E := .inr (iB, [.ref (q 1), .ref (q 3), .ref (q 5), .ref (q 8), .ref (q 9), .int (nI n), .int (nI ins), .ref (q jt)])
abbrev zrow (q : Nat → Nat) (jc sz : Nat) : va_E := .inr (iR, [.ref (q jc), .int (nI sz)])
abbrev zver (q : Nat → Nat) (num : Nat) (par : Value) (com : Int32) (at_ jp cc : Nat) (lat : Value) : va_E := .inr (iV, [.int (nI num), par, .int com, .int (nI at_), .ref (q jp), .int (nI cc), lat])

theorem z_5_6 {x : Int32} (h : nI 5 < x) : nI 6 ≤ x := by
  rw [Int32.lt_iff_toInt_lt, nI_toInt (by decide)] at h
  rw [Int32.le_iff_toInt_le, nI_toInt (by decide)]
  omega

set_option maxRecDepth 100000 in
set_option maxHeartbeats 4000000 in
theorem c_B_isCharacter_y {l : Launch} {D : va_G} {cI cC cZ cV : ClassId} {N : Nat} {q : Nat → Nat} {f : zF} {x : Int32} (hx : zIsCh x) : zC l y_B_isCharacter b_B_isCharacter 1 (some .boolean) (rmD 0 0 0) D (zty cI cC cZ cV) [.int x] N q f (pRd N q f (nI 1)) := by
  refine zC.of (by decide) (by simp [Value.category]) (Nat.le_of_ble_eq_true rfl) (fun G X Y => ?_)
  show G 0 0 0 [some (.int x)] [] N q f
  refine zr_iload_n X d_B_isCharacter_0 rfl ?_
  refine zr_bipush (v := 10) X d_B_isCharacter_1 (by decide) ?_
  refine zr_icmp_eq (tgt := 18) X d_B_isCharacter_3 rfl (fun h3 => ?_) (fun h3 => ?_)
  · skip
    refine zr_iconst (v := nI 1) X d_B_isCharacter_18 (by decide) ?_
    refine zr_goto (tgt := 23) X d_B_isCharacter_19 rfl ?_
    refine zr_ireturn Y d_B_isCharacter_23 rfl (Nat.le_of_ble_eq_true rfl) (Nat.le_of_ble_eq_true rfl) ?_
    exact ⟨rfl, rfl, rfl, rfl⟩
  · skip
    refine zr_iload_n X d_B_isCharacter_6 rfl ?_
    refine zr_bipush (v := 32) X d_B_isCharacter_7 (by decide) ?_
    refine zr_icmp_ltf (tgt := 22) X d_B_isCharacter_9 rfl (hx.resolve_left h3).1 ?_
    refine zr_iload_n X d_B_isCharacter_12 rfl ?_
    refine zr_bipush (v := 126) X d_B_isCharacter_13 (by decide) ?_
    refine zr_icmp_gtf (tgt := 22) X d_B_isCharacter_15 rfl (hx.resolve_left h3).2 ?_
    refine zr_iconst (v := nI 1) X d_B_isCharacter_18 (by decide) ?_
    refine zr_goto (tgt := 23) X d_B_isCharacter_19 rfl ?_
    refine zr_ireturn Y d_B_isCharacter_23 rfl (Nat.le_of_ble_eq_true rfl) (Nat.le_of_ble_eq_true rfl) ?_
    exact ⟨rfl, rfl, rfl, rfl⟩

set_option maxRecDepth 100000 in
set_option maxHeartbeats 4000000 in
theorem c_B_isCharacter_n {l : Launch} {D : va_G} {cI cC cZ cV : ClassId} {N : Nat} {q : Nat → Nat} {f : zF} {x : Int32} (hx : ¬ zIsCh x) : zC l y_B_isCharacter b_B_isCharacter 1 (some .boolean) (rmD 0 0 0) D (zty cI cC cZ cV) [.int x] N q f (pRd N q f (nI 0)) := by
  refine zC.of (by decide) (by simp [Value.category]) (Nat.le_of_ble_eq_true rfl) (fun G X Y => ?_)
  show G 0 0 0 [some (.int x)] [] N q f
  refine zr_iload_n X d_B_isCharacter_0 rfl ?_
  refine zr_bipush (v := 10) X d_B_isCharacter_1 (by decide) ?_
  refine zr_icmp_eqf (tgt := 18) X d_B_isCharacter_3 rfl (fun h => hx (Or.inl h)) ?_
  refine zr_iload_n X d_B_isCharacter_6 rfl ?_
  refine zr_bipush (v := 32) X d_B_isCharacter_7 (by decide) ?_
  refine zr_icmp_lt (tgt := 22) X d_B_isCharacter_9 rfl (fun h9 => ?_) (fun h9 => ?_)
  · skip
    refine zr_iconst (v := nI 0) X d_B_isCharacter_22 (by decide) ?_
    refine zr_ireturn Y d_B_isCharacter_23 rfl (Nat.le_of_ble_eq_true rfl) (Nat.le_of_ble_eq_true rfl) ?_
    exact ⟨rfl, rfl, rfl, rfl⟩
  · skip
    refine zr_iload_n X d_B_isCharacter_12 rfl ?_
    refine zr_bipush (v := 126) X d_B_isCharacter_13 (by decide) ?_
    refine zr_icmp_gtt (tgt := 22) X d_B_isCharacter_15 rfl (Decidable.byContradiction (fun h => hx (Or.inr ⟨h9, h⟩))) ?_
    refine zr_iconst (v := nI 0) X d_B_isCharacter_22 (by decide) ?_
    refine zr_ireturn Y d_B_isCharacter_23 rfl (Nat.le_of_ble_eq_true rfl) (Nat.le_of_ble_eq_true rfl) ?_
    exact ⟨rfl, rfl, rfl, rfl⟩

set_option maxRecDepth 100000 in
set_option maxHeartbeats 4000000 in
theorem c_B_isMark_y {l : Launch} {D : va_G} {cI cC cZ cV : ClassId} {N : Nat} {q : Nat → Nat} {f : zF} {m : Nat} (hm : m < 6) : zC l y_B_isMark b_B_isMark 1 (some .boolean) (rmD 0 0 0) D (zty cI cC cZ cV) [.int (nI m)] N q f (pRd N q f (nI 1)) := by
  refine zC.of (by decide) (by simp [Value.category]) (Nat.le_of_ble_eq_true rfl) (fun G X Y => ?_)
  show G 0 0 0 [some (.int (nI m))] [] N q f
  refine zr_iload_n X d_B_isMark_0 rfl ?_
  refine zr_if_ltf (tgt := 14) X d_B_isMark_1 rfl (nI_pos (by omega)) ?_
  refine zr_iload_n X d_B_isMark_4 rfl ?_
  refine zr_bipush (v := nI 6) X d_B_isMark_5 (by decide) ?_
  refine zr_icmp_gef (tgt := 14) X d_B_isMark_7 rfl (nI_ge hm (by decide)) ?_
  refine zr_iconst (v := nI 1) X d_B_isMark_10 (by decide) ?_
  refine zr_goto (tgt := 15) X d_B_isMark_11 rfl ?_
  refine zr_ireturn Y d_B_isMark_15 rfl (Nat.le_of_ble_eq_true rfl) (Nat.le_of_ble_eq_true rfl) ?_
  exact ⟨rfl, rfl, rfl, rfl⟩

set_option maxRecDepth 100000 in
set_option maxHeartbeats 4000000 in
theorem c_B_isMark_n {l : Launch} {D : va_G} {cI cC cZ cV : ClassId} {N : Nat} {q : Nat → Nat} {f : zF} {x : Int32} (hx : zNo x 5) : zC l y_B_isMark b_B_isMark 1 (some .boolean) (rmD 0 0 0) D (zty cI cC cZ cV) [.int x] N q f (pRd N q f (nI 0)) := by
  refine zC.of (by decide) (by simp [Value.category]) (Nat.le_of_ble_eq_true rfl) (fun G X Y => ?_)
  show G 0 0 0 [some (.int x)] [] N q f
  refine zr_iload_n X d_B_isMark_0 rfl ?_
  refine zr_if_lt (tgt := 14) X d_B_isMark_1 rfl (fun h1 => ?_) (fun h1 => ?_)
  · skip
    refine zr_iconst (v := nI 0) X d_B_isMark_14 (by decide) ?_
    refine zr_ireturn Y d_B_isMark_15 rfl (Nat.le_of_ble_eq_true rfl) (Nat.le_of_ble_eq_true rfl) ?_
    exact ⟨rfl, rfl, rfl, rfl⟩
  · skip
    refine zr_iload_n X d_B_isMark_4 rfl ?_
    refine zr_bipush (v := nI 6) X d_B_isMark_5 (by decide) ?_
    refine zr_icmp_get (tgt := 14) X d_B_isMark_7 rfl (z_5_6 (hx.resolve_left h1)) ?_
    refine zr_iconst (v := nI 0) X d_B_isMark_14 (by decide) ?_
    refine zr_ireturn Y d_B_isMark_15 rfl (Nat.le_of_ble_eq_true rfl) (Nat.le_of_ble_eq_true rfl) ?_
    exact ⟨rfl, rfl, rfl, rfl⟩

set_option maxRecDepth 100000 in
set_option maxHeartbeats 4000000 in
theorem c_B_type_y {l : Launch} {D : va_G} {cI cC cZ cV : ClassId} {N : Nat} {q : Nat → Nat} {f : zF} (hN : 23 ≤ N) {n ins jt : Nat} (h0 : f 0 = zbo q n ins jt) {k : Nat} (h3 : f 3 = zrow q 4 k) {sc : Nat → Int32} (h4 : f 4 = .inl (cC, 40, .inl sc)) {x : Int32} (hx : zIsCh x) (hf : fits .char (.int x) = true) (hk : k < 40) : zC l y_B_type b_B_type 2 (some .boolean) (rmD 1 0 0) D (zty cI cC cZ cV) [.ref (q 0), .int x] N q f (fun v N' q' f' => v = some (.int (nI 1)) ∧ N' = N ∧ q' = q ∧ f' = va_up (va_up f 4 (.inl (cC, 40, .inl (upd sc k x)))) 3 (zrow q 4 (k + 1))) := by
  refine zC.of (by decide) (by simp [Value.category]) (Nat.le_of_ble_eq_true rfl) (fun G X Y => ?_)
  show G 0 0 0 [some (.ref (q 0)), some (.int x)] [] N q f
  refine zr_iload_n X d_B_type_0 rfl ?_
  refine zr_callS X K_B_51 KS_B_51 (c_B_isCharacter_y hx) d_B_type_1 rfl (by decide) (Nat.le_of_ble_eq_true rfl) (by decide) (st := []) rfl (kRd ?_)
  show G 0 0 4 [some (.ref (q 0)), some (.int x)] [.int (nI 1)] N q f
  refine zr_if_eqf (tgt := 19) X d_B_type_4 rfl (by decide) ?_
  refine zr_aload_n X d_B_type_7 rfl ?_
  refine zr_get X F_B_18 d_B_type_8 (by omega) h0 (v := .ref (q 3)) rfl ?_
  refine zr_get X F_B_55 d_B_type_11 (by omega) h3 (v := .int (nI k)) rfl ?_
  refine zr_bipush (v := nI 40) X d_B_type_14 (by decide) ?_
  refine zr_icmp_net (tgt := 21) X d_B_type_16 rfl (fun h9 => absurd ((nI_eq (by omega) (by decide)).mp h9) (by omega)) ?_
  refine zr_aload_n X d_B_type_21 rfl ?_
  refine zr_get X F_B_18 d_B_type_22 (by omega) h0 (v := .ref (q 3)) rfl ?_
  refine zr_get X F_B_58 d_B_type_25 (by omega) h3 (v := .ref (q 4)) rfl ?_
  refine zr_aload_n X d_B_type_28 rfl ?_
  refine zr_get X F_B_18 d_B_type_29 (by omega) h0 (v := .ref (q 3)) rfl ?_
  refine zr_get X F_B_55 d_B_type_32 (by omega) h3 (v := .int (nI k)) rfl ?_
  refine zr_iload_n X d_B_type_35 rfl ?_
  refine zr_castore X 1 d_B_type_36 (by omega) h4 rfl (by omega) (by decide) (z_charN hf) ?_
  refine zr_aload_n X d_B_type_37 rfl ?_
  refine zr_get X F_B_18 d_B_type_38 (by omega) (up_ne (by decide) h0) (v := .ref (q 3)) rfl ?_
  refine zr_dup X d_B_type_41 rfl ?_
  refine zr_get X F_B_55 d_B_type_42 (by omega) (up_ne (by decide) h3) (v := .int (nI k)) rfl ?_
  refine zr_iconst (v := nI 1) X d_B_type_45 (by decide) ?_
  refine zr_iadd (z := nI (k + 1)) X d_B_type_46 (nI_add _ _) ?_
  refine zr_put (fs' := [.ref (q 4), .int (nI (k + 1))]) X F_B_55 d_B_type_47 (by omega) (up_ne (by decide) h3) rfl rfl (Nat.le_of_ble_eq_true rfl) rfl ?_
  refine zr_iconst (v := nI 1) X d_B_type_50 (by decide) ?_
  refine zr_ireturn Y d_B_type_51 rfl (Nat.le_of_ble_eq_true rfl) (Nat.le_of_ble_eq_true rfl) ?_
  exact ⟨rfl, rfl, rfl, rfl⟩

set_option maxRecDepth 100000 in
set_option maxHeartbeats 4000000 in
theorem c_B_type_n {l : Launch} {D : va_G} {cI cC cZ cV : ClassId} {N : Nat} {q : Nat → Nat} {f : zF} (hN : 23 ≤ N) {n ins jt : Nat} (h0 : f 0 = zbo q n ins jt) {x : Int32} (hx : ¬ zIsCh x) : zC l y_B_type b_B_type 2 (some .boolean) (rmD 1 0 0) D (zty cI cC cZ cV) [.ref (q 0), .int x] N q f (pRd N q f (nI 0)) := by
  refine zC.of (by decide) (by simp [Value.category]) (Nat.le_of_ble_eq_true rfl) (fun G X Y => ?_)
  show G 0 0 0 [some (.ref (q 0)), some (.int x)] [] N q f
  refine zr_iload_n X d_B_type_0 rfl ?_
  refine zr_callS X K_B_51 KS_B_51 (c_B_isCharacter_n hx) d_B_type_1 rfl (by decide) (Nat.le_of_ble_eq_true rfl) (by decide) (st := []) rfl (kRd ?_)
  show G 0 0 4 [some (.ref (q 0)), some (.int x)] [.int (nI 0)] N q f
  refine zr_if_eqt (tgt := 19) X d_B_type_4 rfl (by decide) ?_
  refine zr_iconst (v := nI 0) X d_B_type_19 (by decide) ?_
  refine zr_ireturn Y d_B_type_20 rfl (Nat.le_of_ble_eq_true rfl) (Nat.le_of_ble_eq_true rfl) ?_
  exact ⟨rfl, rfl, rfl, rfl⟩

set_option maxRecDepth 100000 in
set_option maxHeartbeats 4000000 in
theorem c_B_type_f {l : Launch} {D : va_G} {cI cC cZ cV : ClassId} {N : Nat} {q : Nat → Nat} {f : zF} (hN : 23 ≤ N) {n ins jt : Nat} (h0 : f 0 = zbo q n ins jt) {k : Nat} (h3 : f 3 = zrow q 4 k) {x : Int32} (hx : zIsCh x) (hk : k = 40) : zC l y_B_type b_B_type 2 (some .boolean) (rmD 1 0 0) D (zty cI cC cZ cV) [.ref (q 0), .int x] N q f (pRd N q f (nI 0)) := by
  refine zC.of (by decide) (by simp [Value.category]) (Nat.le_of_ble_eq_true rfl) (fun G X Y => ?_)
  show G 0 0 0 [some (.ref (q 0)), some (.int x)] [] N q f
  refine zr_iload_n X d_B_type_0 rfl ?_
  refine zr_callS X K_B_51 KS_B_51 (c_B_isCharacter_y hx) d_B_type_1 rfl (by decide) (Nat.le_of_ble_eq_true rfl) (by decide) (st := []) rfl (kRd ?_)
  show G 0 0 4 [some (.ref (q 0)), some (.int x)] [.int (nI 1)] N q f
  refine zr_if_eqf (tgt := 19) X d_B_type_4 rfl (by decide) ?_
  refine zr_aload_n X d_B_type_7 rfl ?_
  refine zr_get X F_B_18 d_B_type_8 (by omega) h0 (v := .ref (q 3)) rfl ?_
  refine zr_get X F_B_55 d_B_type_11 (by omega) h3 (v := .int (nI k)) rfl ?_
  refine zr_bipush (v := nI 40) X d_B_type_14 (by decide) ?_
  refine zr_icmp_nef (tgt := 21) X d_B_type_16 rfl (by rw [hk]) ?_
  refine zr_iconst (v := nI 0) X d_B_type_19 (by decide) ?_
  refine zr_ireturn Y d_B_type_20 rfl (Nat.le_of_ble_eq_true rfl) (Nat.le_of_ble_eq_true rfl) ?_
  exact ⟨rfl, rfl, rfl, rfl⟩

set_option maxRecDepth 100000 in
set_option maxHeartbeats 4000000 in
theorem c_B_wipe {l : Launch} {D : va_G} {cI cC cZ cV : ClassId} {N : Nat} {q : Nat → Nat} {f : zF} (hN : 23 ≤ N) {n ins jt : Nat} (h0 : f 0 = zbo q n ins jt) {k : Nat} (h3 : f 3 = zrow q 4 k) : zC l y_B_wipe b_B_wipe 1 none (rmD 0 0 0) D (zty cI cC cZ cV) [.ref (q 0)] N q f (pW N q (va_up f 3 (zrow q 4 0))) := by
  refine zC.of (by decide) (by simp [Value.category]) (Nat.le_of_ble_eq_true rfl) (fun G X Y => ?_)
  show G 0 0 0 [some (.ref (q 0))] [] N q f
  refine zr_aload_n X d_B_wipe_0 rfl ?_
  refine zr_get X F_B_18 d_B_wipe_1 (by omega) h0 (v := .ref (q 3)) rfl ?_
  refine zr_iconst (v := nI 0) X d_B_wipe_4 (by decide) ?_
  refine zr_put (fs' := [.ref (q 4), .int (nI 0)]) X F_B_55 d_B_wipe_5 (by omega) h3 rfl rfl (Nat.le_of_ble_eq_true rfl) rfl ?_
  refine zr_return Y d_B_wipe_8 (Nat.le_of_ble_eq_true rfl) (Nat.le_of_ble_eq_true rfl) ?_
  exact ⟨rfl, rfl, rfl, rfl⟩

set_option maxRecDepth 100000 in
set_option maxHeartbeats 4000000 in
theorem c_B_scratch {l : Launch} {D : va_G} {cI cC cZ cV : ClassId} {N : Nat} {q : Nat → Nat} {f : zF} (hN : 23 ≤ N) {n ins jt : Nat} (h0 : f 0 = zbo q n ins jt) {k : Nat} (h3 : f 3 = zrow q 4 k) : zC l y_B_scratch b_B_scratch 1 (some .int) (rmD 0 0 0) D (zty cI cC cZ cV) [.ref (q 0)] N q f (pRd N q f (nI k)) := by
  refine zC.of (by decide) (by simp [Value.category]) (Nat.le_of_ble_eq_true rfl) (fun G X Y => ?_)
  show G 0 0 0 [some (.ref (q 0))] [] N q f
  refine zr_aload_n X d_B_scratch_0 rfl ?_
  refine zr_get X F_B_18 d_B_scratch_1 (by omega) h0 (v := .ref (q 3)) rfl ?_
  refine zr_get X F_B_55 d_B_scratch_4 (by omega) h3 (v := .int (nI k)) rfl ?_
  refine zr_ireturn Y d_B_scratch_7 rfl (Nat.le_of_ble_eq_true rfl) (Nat.le_of_ble_eq_true rfl) ?_
  exact ⟨rfl, rfl, rfl, rfl⟩

set_option maxRecDepth 100000 in
set_option maxHeartbeats 4000000 in
theorem c_B_versions {l : Launch} {D : va_G} {cI cC cZ cV : ClassId} {N : Nat} {q : Nat → Nat} {f : zF} (hN : 23 ≤ N) {n ins jt : Nat} (h0 : f 0 = zbo q n ins jt) : zC l y_B_versions b_B_versions 1 (some .int) (rmD 0 0 0) D (zty cI cC cZ cV) [.ref (q 0)] N q f (pRd N q f (nI n)) := by
  refine zC.of (by decide) (by simp [Value.category]) (Nat.le_of_ble_eq_true rfl) (fun G X Y => ?_)
  show G 0 0 0 [some (.ref (q 0))] [] N q f
  refine zr_aload_n X d_B_versions_0 rfl ?_
  refine zr_get X F_B_44 d_B_versions_1 (by omega) h0 (v := .int (nI n)) rfl ?_
  refine zr_ireturn Y d_B_versions_4 rfl (Nat.le_of_ble_eq_true rfl) (Nat.le_of_ble_eq_true rfl) ?_
  exact ⟨rfl, rfl, rfl, rfl⟩

set_option maxRecDepth 100000 in
set_option maxHeartbeats 4000000 in
theorem c_B_length {l : Launch} {D : va_G} {cI cC cZ cV : ClassId} {N : Nat} {q : Nat → Nat} {f : zF} (hN : 23 ≤ N) {n ins jt : Nat} (h0 : f 0 = zbo q n ins jt) {sz : Nat} (h1 : f 1 = zrow q 2 sz) : zC l y_B_length b_B_length 1 (some .int) (rmD 0 0 0) D (zty cI cC cZ cV) [.ref (q 0)] N q f (pRd N q f (nI sz)) := by
  refine zC.of (by decide) (by simp [Value.category]) (Nat.le_of_ble_eq_true rfl) (fun G X Y => ?_)
  show G 0 0 0 [some (.ref (q 0))] [] N q f
  refine zr_aload_n X d_B_length_0 rfl ?_
  refine zr_get X F_B_14 d_B_length_1 (by omega) h0 (v := .ref (q 1)) rfl ?_
  refine zr_get X F_B_55 d_B_length_4 (by omega) h1 (v := .int (nI sz)) rfl ?_
  refine zr_ireturn Y d_B_length_7 rfl (Nat.le_of_ble_eq_true rfl) (Nat.le_of_ble_eq_true rfl) ?_
  exact ⟨rfl, rfl, rfl, rfl⟩

set_option maxRecDepth 100000 in
set_option maxHeartbeats 4000000 in
theorem c_B_copy_n1 {l : Launch} {D : va_G} {cI cC cZ cV : ClassId} {N : Nat} {q : Nat → Nat} {f : zF} (hN : 23 ≤ N) {n ins jt : Nat} (h0 : f 0 = zbo q n ins jt) {sz : Nat} (h1 : f 1 = zrow q 2 sz) {x y : Int32} (hs : sz < 2 ^ 31) (hx : zNoS x y sz) : zC l y_B_copy b_B_copy 3 (some .int) (rmD 2 0 0) D (zty cI cC cZ cV) [.ref (q 0), .int x, .int y] N q f (pRd N q f (-1)) := by
  refine zC.of (by decide) (by simp [Value.category]) (Nat.le_of_ble_eq_true rfl) (fun G X Y => ?_)
  show G 0 0 0 [some (.ref (q 0)), some (.int x), some (.int y)] [] N q f
  refine zr_aload_n X d_B_copy_0 rfl ?_
  refine zr_get X F_B_14 d_B_copy_1 (by omega) h0 (v := .ref (q 1)) rfl ?_
  refine zr_iload_n X d_B_copy_4 rfl ?_
  refine zr_iload_n X d_B_copy_5 rfl ?_
  refine zr_callV X K_B_62 KI_B_62 KS_B_62 (c_R_hasStretch_n (by omega) h1 hs hx) d_B_copy_6 (by omega) h1 rfl rfl (by decide) (Nat.le_of_ble_eq_true rfl) (by decide) (st := []) rfl (kRd ?_)
  show G 0 0 9 [some (.ref (q 0)), some (.int x), some (.int y)] [.int (nI 0)] N q f
  refine zr_if_eqt (tgt := 18) X d_B_copy_9 rfl (by decide) ?_
  refine zr_iconst (v := (-1)) X d_B_copy_18 (by decide) ?_
  refine zr_ireturn Y d_B_copy_19 rfl (Nat.le_of_ble_eq_true rfl) (Nat.le_of_ble_eq_true rfl) ?_
  exact ⟨rfl, rfl, rfl, rfl⟩

set_option maxRecDepth 100000 in
set_option maxHeartbeats 4000000 in
theorem c_B_copy_n2 {l : Launch} {D : va_G} {cI cC cZ cV : ClassId} {N : Nat} {q : Nat → Nat} {f : zF} (hN : 23 ≤ N) {n ins jt : Nat} (h0 : f 0 = zbo q n ins jt) {sz : Nat} (h1 : f 1 = zrow q 2 sz) {p c : Nat} (hs : sz < 2 ^ 31) (hp : p + c ≤ sz) (hc : 40 < c) : zC l y_B_copy b_B_copy 3 (some .int) (rmD 2 0 0) D (zty cI cC cZ cV) [.ref (q 0), .int (nI p), .int (nI c)] N q f (pRd N q f (-1)) := by
  refine zC.of (by decide) (by simp [Value.category]) (Nat.le_of_ble_eq_true rfl) (fun G X Y => ?_)
  show G 0 0 0 [some (.ref (q 0)), some (.int (nI p)), some (.int (nI c))] [] N q f
  refine zr_aload_n X d_B_copy_0 rfl ?_
  refine zr_get X F_B_14 d_B_copy_1 (by omega) h0 (v := .ref (q 1)) rfl ?_
  refine zr_iload_n X d_B_copy_4 rfl ?_
  refine zr_iload_n X d_B_copy_5 rfl ?_
  refine zr_callV X K_B_62 KI_B_62 KS_B_62 (c_R_hasStretch_y (by omega) h1 hs hp) d_B_copy_6 (by omega) h1 rfl rfl (by decide) (Nat.le_of_ble_eq_true rfl) (by decide) (st := []) rfl (kRd ?_)
  show G 0 0 9 [some (.ref (q 0)), some (.int (nI p)), some (.int (nI c))] [.int (nI 1)] N q f
  refine zr_if_eqf (tgt := 18) X d_B_copy_9 rfl (by decide) ?_
  refine zr_iload_n X d_B_copy_12 rfl ?_
  refine zr_bipush (v := nI 40) X d_B_copy_13 (by decide) ?_
  refine zr_icmp_lef (tgt := 20) X d_B_copy_15 rfl (nI_ge hc (by omega)) ?_
  refine zr_iconst (v := (-1)) X d_B_copy_18 (by decide) ?_
  refine zr_ireturn Y d_B_copy_19 rfl (Nat.le_of_ble_eq_true rfl) (Nat.le_of_ble_eq_true rfl) ?_
  exact ⟨rfl, rfl, rfl, rfl⟩

set_option maxRecDepth 100000 in
set_option maxHeartbeats 4000000 in
theorem c_B_copy_y {l : Launch} {D : va_G} {cI cC cZ cV : ClassId} {N : Nat} {q : Nat → Nat} {f : zF} (hN : 23 ≤ N) {n ins jt : Nat} (h0 : f 0 = zbo q n ins jt) {sz : Nat} (h1 : f 1 = zrow q 2 sz) {tx : Nat → Int32} (h2 : f 2 = .inl (cC, 2000, .inl tx)) {k : Nat} (h3 : f 3 = zrow q 4 k) {sc : Nat → Int32} (h4 : f 4 = .inl (cC, 40, .inl sc)) (htx : zCh tx) {p c : Nat} (hs : sz ≤ 2000) (hp : p + c ≤ sz) (hc : c ≤ 40) : zC l y_B_copy b_B_copy 3 (some .int) (rmD 2 0 0) D (zty cI cC cZ cV) [.ref (q 0), .int (nI p), .int (nI c)] N q f (fun v N' q' f' => v = some (.int (nI c)) ∧ N' = N ∧ q' = q ∧ f' = va_up (va_up f 4 (.inl (cC, 40, .inl (va_cpy tx sc p 0 c)))) 3 (zrow q 4 c)) := by
  refine zC.of (by decide) (by simp [Value.category]) (Nat.le_of_ble_eq_true rfl) (fun G X Y => ?_)
  show G 0 0 0 [some (.ref (q 0)), some (.int (nI p)), some (.int (nI c))] [] N q f
  refine zr_aload_n X d_B_copy_0 rfl ?_
  refine zr_get X F_B_14 d_B_copy_1 (by omega) h0 (v := .ref (q 1)) rfl ?_
  refine zr_iload_n X d_B_copy_4 rfl ?_
  refine zr_iload_n X d_B_copy_5 rfl ?_
  refine zr_callV X K_B_62 KI_B_62 KS_B_62 (c_R_hasStretch_y (by omega) h1 (by omega) hp) d_B_copy_6 (by omega) h1 rfl rfl (by decide) (Nat.le_of_ble_eq_true rfl) (by decide) (st := []) rfl (kRd ?_)
  show G 0 0 9 [some (.ref (q 0)), some (.int (nI p)), some (.int (nI c))] [.int (nI 1)] N q f
  refine zr_if_eqf (tgt := 18) X d_B_copy_9 rfl (by decide) ?_
  refine zr_iload_n X d_B_copy_12 rfl ?_
  refine zr_bipush (v := nI 40) X d_B_copy_13 (by decide) ?_
  refine zr_icmp_let (tgt := 20) X d_B_copy_15 rfl (nI_le hc (by decide)) ?_
  refine zr_aload_n X d_B_copy_20 rfl ?_
  refine zr_get X F_B_14 d_B_copy_21 (by omega) h0 (v := .ref (q 1)) rfl ?_
  refine zr_get X F_B_58 d_B_copy_24 (by omega) h1 (v := .ref (q 2)) rfl ?_
  refine zr_iload_n X d_B_copy_27 rfl ?_
  refine zr_aload_n X d_B_copy_28 rfl ?_
  refine zr_get X F_B_18 d_B_copy_29 (by omega) h0 (v := .ref (q 3)) rfl ?_
  refine zr_get X F_B_58 d_B_copy_32 (by omega) h3 (v := .ref (q 4)) rfl ?_
  refine zr_iconst (v := nI 0) X d_B_copy_35 (by decide) ?_
  refine zr_iload_n X d_B_copy_36 rfl ?_
  refine zr_copy X AC_B_66 1 d_B_copy_37 (by omega) (by omega) h2 h4 rfl (by omega) (by omega) (by omega) (by omega) (fun i _ => htx _) (by decide) (Nat.le_of_ble_eq_true rfl) ?_
  refine zr_aload_n X d_B_copy_40 rfl ?_
  refine zr_get X F_B_18 d_B_copy_41 (by omega) (up_ne (by decide) h0) (v := .ref (q 3)) rfl ?_
  refine zr_iload_n X d_B_copy_44 rfl ?_
  refine zr_put (fs' := [.ref (q 4), .int (nI c)]) X F_B_55 d_B_copy_45 (by omega) (up_ne (by decide) h3) rfl rfl (Nat.le_of_ble_eq_true rfl) rfl ?_
  refine zr_iload_n X d_B_copy_48 rfl ?_
  refine zr_ireturn Y d_B_copy_49 rfl (Nat.le_of_ble_eq_true rfl) (Nat.le_of_ble_eq_true rfl) ?_
  exact ⟨rfl, rfl, rfl, rfl⟩

set_option maxRecDepth 100000 in
set_option maxHeartbeats 4000000 in
theorem c_B_at_y {l : Launch} {D : va_G} {cI cC cZ cV : ClassId} {N : Nat} {q : Nat → Nat} {f : zF} (hN : 23 ≤ N) {n ins jt : Nat} (h0 : f 0 = zbo q n ins jt) {sz : Nat} (h1 : f 1 = zrow q 2 sz) {tx : Nat → Int32} (h2 : f 2 = .inl (cC, 2000, .inl tx)) (htx : zCh tx) {i : Nat} (hi : i < sz) (hs : sz ≤ 2000) : zC l y_B_at b_B_at 2 (some .char) (rmD 0 0 0) D (zty cI cC cZ cV) [.ref (q 0), .int (nI i)] N q f (pRd N q f (tx i)) := by
  refine zC.of (by decide) (by simp [Value.category]) (Nat.le_of_ble_eq_true rfl) (fun G X Y => ?_)
  show G 0 0 0 [some (.ref (q 0)), some (.int (nI i))] [] N q f
  refine zr_iload_n X d_B_at_0 rfl ?_
  refine zr_if_ltf (tgt := 27) X d_B_at_1 rfl (nI_pos (by omega)) ?_
  refine zr_iload_n X d_B_at_4 rfl ?_
  refine zr_aload_n X d_B_at_5 rfl ?_
  refine zr_get X F_B_14 d_B_at_6 (by omega) h0 (v := .ref (q 1)) rfl ?_
  refine zr_get X F_B_55 d_B_at_9 (by omega) h1 (v := .int (nI sz)) rfl ?_
  refine zr_icmp_gef (tgt := 27) X d_B_at_12 rfl (nI_ge hi (by omega)) ?_
  refine zr_aload_n X d_B_at_15 rfl ?_
  refine zr_get X F_B_14 d_B_at_16 (by omega) h0 (v := .ref (q 1)) rfl ?_
  refine zr_get X F_B_58 d_B_at_19 (by omega) h1 (v := .ref (q 2)) rfl ?_
  refine zr_iload_n X d_B_at_22 rfl ?_
  refine zr_caload (v := tx i) X 1 d_B_at_23 (by omega) h2 rfl (by omega) (by decide) rfl ?_
  refine zr_goto (tgt := 28) X d_B_at_24 rfl ?_
  refine zr_ireturn Y d_B_at_28 (z_charR (htx _)) (Nat.le_of_ble_eq_true rfl) (Nat.le_of_ble_eq_true rfl) ?_
  exact ⟨rfl, rfl, rfl, rfl⟩

set_option maxRecDepth 100000 in
set_option maxHeartbeats 4000000 in
theorem c_B_at_n {l : Launch} {D : va_G} {cI cC cZ cV : ClassId} {N : Nat} {q : Nat → Nat} {f : zF} (hN : 23 ≤ N) {n ins jt : Nat} (h0 : f 0 = zbo q n ins jt) {sz : Nat} (h1 : f 1 = zrow q 2 sz) {x : Int32} (hx : zNa x sz) : zC l y_B_at b_B_at 2 (some .char) (rmD 0 0 0) D (zty cI cC cZ cV) [.ref (q 0), .int x] N q f (pRd N q f (nI 0)) := by
  refine zC.of (by decide) (by simp [Value.category]) (Nat.le_of_ble_eq_true rfl) (fun G X Y => ?_)
  show G 0 0 0 [some (.ref (q 0)), some (.int x)] [] N q f
  refine zr_iload_n X d_B_at_0 rfl ?_
  refine zr_if_lt (tgt := 27) X d_B_at_1 rfl (fun k1 => ?_) (fun k1 => ?_)
  · skip
    refine zr_iconst (v := nI 0) X d_B_at_27 (by decide) ?_
    refine zr_ireturn Y d_B_at_28 rfl (Nat.le_of_ble_eq_true rfl) (Nat.le_of_ble_eq_true rfl) ?_
    exact ⟨rfl, rfl, rfl, rfl⟩
  · skip
    refine zr_iload_n X d_B_at_4 rfl ?_
    refine zr_aload_n X d_B_at_5 rfl ?_
    refine zr_get X F_B_14 d_B_at_6 (by omega) h0 (v := .ref (q 1)) rfl ?_
    refine zr_get X F_B_55 d_B_at_9 (by omega) h1 (v := .int (nI sz)) rfl ?_
    refine zr_icmp_get (tgt := 27) X d_B_at_12 rfl (hx.resolve_left k1) ?_
    refine zr_iconst (v := nI 0) X d_B_at_27 (by decide) ?_
    refine zr_ireturn Y d_B_at_28 rfl (Nat.le_of_ble_eq_true rfl) (Nat.le_of_ble_eq_true rfl) ?_
    exact ⟨rfl, rfl, rfl, rfl⟩

set_option maxRecDepth 100000 in
set_option maxHeartbeats 4000000 in
theorem c_B_lines {l : Launch} {D : va_G} {cI cC cZ cV : ClassId} {N : Nat} {q : Nat → Nat} {f : zF} (hN : 23 ≤ N) {n ins jt : Nat} (h0 : f 0 = zbo q n ins jt) {sz : Nat} (h1 : f 1 = zrow q 2 sz) {tx : Nat → Int32} (h2 : f 2 = .inl (cC, 2000, .inl tx)) (hs : sz ≤ 2000) : zC l y_B_lines b_B_lines 1 (some .int) (rmD 1 0 0) D (zty cI cC cZ cV) [.ref (q 0)] N q f (pRd N q f (nI (znl tx sz + 1))) := by
  refine zC.of (by decide) (by simp [Value.category]) (Nat.le_of_ble_eq_true rfl) (fun G X Y => ?_)
  show G 0 0 0 [some (.ref (q 0))] [] N q f
  refine zr_aload_n X d_B_lines_0 rfl ?_
  refine zr_get X F_B_14 d_B_lines_1 (by omega) h0 (v := .ref (q 1)) rfl ?_
  refine zr_aload_n X d_B_lines_4 rfl ?_
  refine zr_get X F_B_14 d_B_lines_5 (by omega) h0 (v := .ref (q 1)) rfl ?_
  refine zr_get X F_B_55 d_B_lines_8 (by omega) h1 (v := .int (nI sz)) rfl ?_
  refine zr_callV X K_B_110 KI_B_110 KS_B_110 (c_R_newlinesBefore (by omega) h1 (by omega) h2 (by decide) hs) d_B_lines_11 (by omega) h1 rfl rfl (by decide) (Nat.le_of_ble_eq_true rfl) (by decide) (st := []) rfl (kRd ?_)
  show G 0 0 14 [some (.ref (q 0))] [.int (nI (znl tx sz))] N q f
  refine zr_iconst (v := nI 1) X d_B_lines_14 (by decide) ?_
  refine zr_iadd (z := nI ((znl tx sz) + 1)) X d_B_lines_15 (nI_add _ _) ?_
  refine zr_ireturn Y d_B_lines_16 rfl (Nat.le_of_ble_eq_true rfl) (Nat.le_of_ble_eq_true rfl) ?_
  exact ⟨rfl, rfl, rfl, rfl⟩

set_option maxRecDepth 100000 in
set_option maxHeartbeats 4000000 in
theorem c_B_lineOf_y {l : Launch} {D : va_G} {cI cC cZ cV : ClassId} {N : Nat} {q : Nat → Nat} {f : zF} (hN : 23 ≤ N) {n ins jt : Nat} (h0 : f 0 = zbo q n ins jt) {sz : Nat} (h1 : f 1 = zrow q 2 sz) {tx : Nat → Int32} (h2 : f 2 = .inl (cC, 2000, .inl tx)) {p : Nat} (hp : p ≤ sz) (hs : sz ≤ 2000) : zC l y_B_lineOf b_B_lineOf 2 (some .int) (rmD 1 0 0) D (zty cI cC cZ cV) [.ref (q 0), .int (nI p)] N q f (pRd N q f (nI (znl tx p))) := by
  refine zC.of (by decide) (by simp [Value.category]) (Nat.le_of_ble_eq_true rfl) (fun G X Y => ?_)
  show G 0 0 0 [some (.ref (q 0)), some (.int (nI p))] [] N q f
  refine zr_aload_n X d_B_lineOf_0 rfl ?_
  refine zr_get X F_B_14 d_B_lineOf_1 (by omega) h0 (v := .ref (q 1)) rfl ?_
  refine zr_iload_n X d_B_lineOf_4 rfl ?_
  refine zr_callV X K_B_72 KI_B_72 KS_B_72 (c_R_hasPosition_y (by omega) h1 (by omega) hp) d_B_lineOf_5 (by omega) h1 rfl rfl (by decide) (Nat.le_of_ble_eq_true rfl) (by decide) (st := []) rfl (kRd ?_)
  show G 0 0 8 [some (.ref (q 0)), some (.int (nI p))] [.int (nI 1)] N q f
  refine zr_if_eqf (tgt := 22) X d_B_lineOf_8 rfl (by decide) ?_
  refine zr_aload_n X d_B_lineOf_11 rfl ?_
  refine zr_get X F_B_14 d_B_lineOf_12 (by omega) h0 (v := .ref (q 1)) rfl ?_
  refine zr_iload_n X d_B_lineOf_15 rfl ?_
  refine zr_callV X K_B_110 KI_B_110 KS_B_110 (c_R_newlinesBefore (by omega) h1 (by omega) h2 (by decide) (by omega)) d_B_lineOf_16 (by omega) h1 rfl rfl (by decide) (Nat.le_of_ble_eq_true rfl) (by decide) (st := []) rfl (kRd ?_)
  show G 0 0 19 [some (.ref (q 0)), some (.int (nI p))] [.int (nI (znl tx p))] N q f
  refine zr_goto (tgt := 23) X d_B_lineOf_19 rfl ?_
  refine zr_ireturn Y d_B_lineOf_23 rfl (Nat.le_of_ble_eq_true rfl) (Nat.le_of_ble_eq_true rfl) ?_
  exact ⟨rfl, rfl, rfl, rfl⟩

set_option maxRecDepth 100000 in
set_option maxHeartbeats 4000000 in
theorem c_B_lineOf_n {l : Launch} {D : va_G} {cI cC cZ cV : ClassId} {N : Nat} {q : Nat → Nat} {f : zF} (hN : 23 ≤ N) {n ins jt : Nat} (h0 : f 0 = zbo q n ins jt) {sz : Nat} (h1 : f 1 = zrow q 2 sz) {x : Int32} (hx : zNo x sz) : zC l y_B_lineOf b_B_lineOf 2 (some .int) (rmD 1 0 0) D (zty cI cC cZ cV) [.ref (q 0), .int x] N q f (pRd N q f (-1)) := by
  refine zC.of (by decide) (by simp [Value.category]) (Nat.le_of_ble_eq_true rfl) (fun G X Y => ?_)
  show G 0 0 0 [some (.ref (q 0)), some (.int x)] [] N q f
  refine zr_aload_n X d_B_lineOf_0 rfl ?_
  refine zr_get X F_B_14 d_B_lineOf_1 (by omega) h0 (v := .ref (q 1)) rfl ?_
  refine zr_iload_n X d_B_lineOf_4 rfl ?_
  refine zr_callV X K_B_72 KI_B_72 KS_B_72 (c_R_hasPosition_n (by omega) h1 hx) d_B_lineOf_5 (by omega) h1 rfl rfl (by decide) (Nat.le_of_ble_eq_true rfl) (by decide) (st := []) rfl (kRd ?_)
  show G 0 0 8 [some (.ref (q 0)), some (.int x)] [.int (nI 0)] N q f
  refine zr_if_eqt (tgt := 22) X d_B_lineOf_8 rfl (by decide) ?_
  refine zr_iconst (v := (-1)) X d_B_lineOf_22 (by decide) ?_
  refine zr_ireturn Y d_B_lineOf_23 rfl (Nat.le_of_ble_eq_true rfl) (Nat.le_of_ble_eq_true rfl) ?_
  exact ⟨rfl, rfl, rfl, rfl⟩

set_option maxRecDepth 100000 in
set_option maxHeartbeats 4000000 in
theorem c_B_lineStart_n {l : Launch} {D : va_G} {cI cC cZ cV : ClassId} {N : Nat} {q : Nat → Nat} {f : zF} (hN : 23 ≤ N) {n ins jt : Nat} (h0 : f 0 = zbo q n ins jt) {x : Int32} (hx : x < 0) : zC l y_B_lineStart b_B_lineStart 2 (some .int) (rmD 1 0 0) D (zty cI cC cZ cV) [.ref (q 0), .int x] N q f (pRd N q f (-1)) := by
  refine zC.of (by decide) (by simp [Value.category]) (Nat.le_of_ble_eq_true rfl) (fun G X Y => ?_)
  show G 0 0 0 [some (.ref (q 0)), some (.int x)] [] N q f
  refine zr_iload_n X d_B_lineStart_0 rfl ?_
  refine zr_if_gef (tgt := 6) X d_B_lineStart_1 rfl (z_not_le hx) ?_
  refine zr_iconst (v := (-1)) X d_B_lineStart_4 (by decide) ?_
  refine zr_ireturn Y d_B_lineStart_5 rfl (Nat.le_of_ble_eq_true rfl) (Nat.le_of_ble_eq_true rfl) ?_
  exact ⟨rfl, rfl, rfl, rfl⟩

set_option maxRecDepth 100000 in
set_option maxHeartbeats 4000000 in
theorem c_B_lineStart_0 {l : Launch} {D : va_G} {cI cC cZ cV : ClassId} {N : Nat} {q : Nat → Nat} {f : zF} (hN : 23 ≤ N) {n ins jt : Nat} (h0 : f 0 = zbo q n ins jt) : zC l y_B_lineStart b_B_lineStart 2 (some .int) (rmD 1 0 0) D (zty cI cC cZ cV) [.ref (q 0), .int (nI 0)] N q f (pRd N q f (nI 0)) := by
  refine zC.of (by decide) (by simp [Value.category]) (Nat.le_of_ble_eq_true rfl) (fun G X Y => ?_)
  show G 0 0 0 [some (.ref (q 0)), some (.int (nI 0))] [] N q f
  refine zr_iload_n X d_B_lineStart_0 rfl ?_
  refine zr_if_get (tgt := 6) X d_B_lineStart_1 rfl (by decide) ?_
  refine zr_iload_n X d_B_lineStart_6 rfl ?_
  refine zr_if_nef (tgt := 14) X d_B_lineStart_7 rfl rfl ?_
  refine zr_iconst (v := nI 0) X d_B_lineStart_10 (by decide) ?_
  refine zr_goto (tgt := 22) X d_B_lineStart_11 rfl ?_
  refine zr_ireturn Y d_B_lineStart_22 rfl (Nat.le_of_ble_eq_true rfl) (Nat.le_of_ble_eq_true rfl) ?_
  exact ⟨rfl, rfl, rfl, rfl⟩

set_option maxRecDepth 100000 in
set_option maxHeartbeats 4000000 in
theorem c_B_lineStart_y {l : Launch} {D : va_G} {cI cC cZ cV : ClassId} {N : Nat} {q : Nat → Nat} {f : zF} (hN : 23 ≤ N) {n ins jt : Nat} (h0 : f 0 = zbo q n ins jt) {sz : Nat} (h1 : f 1 = zrow q 2 sz) {tx : Nat → Int32} (h2 : f 2 = .inl (cC, 2000, .inl tx)) {a : Nat} (ha : 0 < a) (ha2 : a < 2 ^ 31) (hs : sz ≤ 2000) : zC l y_B_lineStart b_B_lineStart 2 (some .int) (rmD 1 0 0) D (zty cI cC cZ cV) [.ref (q 0), .int (nI a)] N q f (pI N q (fun r f' => f' = f ∧ zLS tx sz a r)) := by
  refine zC.of (by decide) (by simp [Value.category]) (Nat.le_of_ble_eq_true rfl) (fun G X Y => ?_)
  show G 0 0 0 [some (.ref (q 0)), some (.int (nI a))] [] N q f
  refine zr_iload_n X d_B_lineStart_0 rfl ?_
  refine zr_if_get (tgt := 6) X d_B_lineStart_1 rfl (nI_pos' ha2) ?_
  refine zr_iload_n X d_B_lineStart_6 rfl ?_
  refine zr_if_net (tgt := 14) X d_B_lineStart_7 rfl (nI_ne0 ha ha2) ?_
  refine zr_aload_n X d_B_lineStart_14 rfl ?_
  refine zr_get X F_B_14 d_B_lineStart_15 (by omega) h0 (v := .ref (q 1)) rfl ?_
  refine zr_iload_n X d_B_lineStart_18 rfl ?_
  refine zr_callV X K_B_114 KI_B_114 KS_B_114 (c_R_behindNewline (by omega) h1 (by omega) h2 (by decide) hs ha ha2) d_B_lineStart_19 (by omega) h1 rfl rfl (by decide) (Nat.le_of_ble_eq_true rfl) (by decide) (st := []) rfl (kI fun r1 f1 hr1 => ?_)
  show G 0 0 22 [some (.ref (q 0)), some (.int (nI a))] [.int r1] N q f1
  refine zr_ireturn Y d_B_lineStart_22 rfl (Nat.le_of_ble_eq_true rfl) (Nat.le_of_ble_eq_true rfl) ?_
  exact ⟨_, rfl, rfl, rfl, hr1⟩

set_option maxRecDepth 100000 in
set_option maxHeartbeats 4000000 in
theorem c_B_find_y {l : Launch} {D : va_G} {cI cC cZ cV : ClassId} {N : Nat} {q : Nat → Nat} {f : zF} (hN : 23 ≤ N) {n ins jt : Nat} (h0 : f 0 = zbo q n ins jt) {sz : Nat} (h1 : f 1 = zrow q 2 sz) {tx : Nat → Int32} (h2 : f 2 = .inl (cC, 2000, .inl tx)) {k : Nat} (h3 : f 3 = zrow q 4 k) {sc : Nat → Int32} (h4 : f 4 = .inl (cC, 40, .inl sc)) {p0 : Nat} (hp : p0 ≤ sz) (hs : sz ≤ 2000) (hk : k ≤ 40) (hk0 : 0 < k) : zC l y_B_find b_B_find 3 (some .int) (rmD 1 0 0) D (zty cI cC cZ cV) [.ref (q 0), .int (nI p0)] N q f (pI N q (fun r f' => f' = f ∧ zFnd tx sz sc k p0 r)) := by
  refine zC.of (by decide) (by simp [Value.category]) (Nat.le_of_ble_eq_true rfl) (fun G X Y => ?_)
  show G 0 0 0 [some (.ref (q 0)), some (.int (nI p0)), none] [] N q f
  by_cases hsk : k ≤ sz
  · skip
    have loop : ∀ (d i : Nat), i + d = sz - k + 1 → p0 ≤ i → (∀ p', p0 ≤ p' → p' < i → ¬ zHit tx sz sc k p') → G 0 0 28 [some (.ref (q 0)), some (.int (nI p0)), some (.int (nI i))] [] N q f := by
      intro d
      induction d with
      | zero =>
        intro i hi hp9 hk9
        show G 0 0 28 [some (.ref (q 0)), some (.int (nI p0)), some (.int (nI i))] [] N q f
        refine zr_iload_n X d_B_find_28 rfl ?_
        refine zr_aload_n X d_B_find_29 rfl ?_
        refine zr_get X F_B_14 d_B_find_30 (by omega) h0 (v := .ref (q 1)) rfl ?_
        refine zr_get X F_B_55 d_B_find_33 (by omega) h1 (v := .int (nI sz)) rfl ?_
        refine zr_aload_n X d_B_find_36 rfl ?_
        refine zr_get X F_B_18 d_B_find_37 (by omega) h0 (v := .ref (q 3)) rfl ?_
        refine zr_get X F_B_55 d_B_find_40 (by omega) h3 (v := .int (nI k)) rfl ?_
        refine zr_isub (z := nI (sz - k)) X d_B_find_43 (pk_sub (by omega)) ?_
        refine zr_icmp_gtt (tgt := 70) X d_B_find_44 rfl (nI_lt (by omega) (by omega)) ?_
        refine zr_bipush (v := (-4)) X d_B_find_70 (by decide) ?_
        refine zr_ireturn Y d_B_find_72 rfl (Nat.le_of_ble_eq_true rfl) (Nat.le_of_ble_eq_true rfl) ?_
        refine ⟨_, rfl, rfl, rfl, rfl, Or.inr ⟨rfl, fun p9 hp8 h9 => ?_⟩⟩
        by_cases h8 : p9 < i
        · exact hk9 p9 hp8 h8 h9
        · have := h9.1
          omega
      | succ d ih =>
        intro i hi hp9 hk9
        show G 0 0 28 [some (.ref (q 0)), some (.int (nI p0)), some (.int (nI i))] [] N q f
        refine zr_iload_n X d_B_find_28 rfl ?_
        refine zr_aload_n X d_B_find_29 rfl ?_
        refine zr_get X F_B_14 d_B_find_30 (by omega) h0 (v := .ref (q 1)) rfl ?_
        refine zr_get X F_B_55 d_B_find_33 (by omega) h1 (v := .int (nI sz)) rfl ?_
        refine zr_aload_n X d_B_find_36 rfl ?_
        refine zr_get X F_B_18 d_B_find_37 (by omega) h0 (v := .ref (q 3)) rfl ?_
        refine zr_get X F_B_55 d_B_find_40 (by omega) h3 (v := .int (nI k)) rfl ?_
        refine zr_isub (z := nI (sz - k)) X d_B_find_43 (pk_sub (by omega)) ?_
        refine zr_icmp_gtf (tgt := 70) X d_B_find_44 rfl (nI_nlt (by omega) (by omega)) ?_
        refine zr_aload_n X d_B_find_47 rfl ?_
        refine zr_get X F_B_14 d_B_find_48 (by omega) h0 (v := .ref (q 1)) rfl ?_
        refine zr_iload_n X d_B_find_51 rfl ?_
        refine zr_aload_n X d_B_find_52 rfl ?_
        refine zr_get X F_B_18 d_B_find_53 (by omega) h0 (v := .ref (q 3)) rfl ?_
        refine zr_callV X K_B_117 KI_B_117 KS_B_117 (c_R_readsAt (by omega) h1 (by omega) h2 (by omega) h3 (by omega) h4 (by decide) (by decide) (by omega) hk) d_B_find_56 (by omega) h1 rfl rfl (by decide) (Nat.le_of_ble_eq_true rfl) (by decide) (st := []) rfl (kI fun r1 f1 hr1 => ?_)
        show G 0 0 59 [some (.ref (q 0)), some (.int (nI p0)), some (.int (nI i))] [.int r1] N q f1
        obtain ⟨e1, h8⟩ := hr1
        rw [e1]
        rcases h8 with ⟨rfl, h8⟩ | ⟨rfl, a, ha, h8⟩
        · skip
          show G 0 0 59 [some (.ref (q 0)), some (.int (nI p0)), some (.int (nI i))] [.int (nI 1)] N q f
          refine zr_if_eqf (tgt := 64) X d_B_find_59 rfl (by decide) ?_
          refine zr_iload_n X d_B_find_62 rfl ?_
          refine zr_ireturn Y d_B_find_63 rfl (Nat.le_of_ble_eq_true rfl) (Nat.le_of_ble_eq_true rfl) ?_
          exact ⟨_, rfl, rfl, rfl, rfl, Or.inl ⟨i, by omega, ⟨by omega, h8⟩, rfl, hk9⟩⟩
        · skip
          show G 0 0 59 [some (.ref (q 0)), some (.int (nI p0)), some (.int (nI i))] [.int (nI 0)] N q f
          refine zr_if_eqt (tgt := 64) X d_B_find_59 rfl (by decide) ?_
          refine zr_iinc (v := nI (i + 1)) (lv' := [some (.ref (q 0)), some (.int (nI p0)), some (.int (nI (i + 1)))]) X d_B_find_64 rfl (nI_1 _) (by decide) rfl ?_
          refine zr_goto (tgt := 28) X d_B_find_67 rfl ?_
          refine ih (i + 1) (by omega) (by omega) (fun p9 h5 h6 h7 => ?_)
          by_cases h4 : p9 < i
          · exact hk9 p9 h5 h4 h7
          · exact h8 (show _ from by rw [show i = p9 by omega]; exact h7.2 a ha)
    refine zr_aload_n X d_B_find_0 rfl ?_
    refine zr_get X F_B_14 d_B_find_1 (by omega) h0 (v := .ref (q 1)) rfl ?_
    refine zr_iload_n X d_B_find_4 rfl ?_
    refine zr_callV X K_B_72 KI_B_72 KS_B_72 (c_R_hasPosition_y (by omega) h1 (by omega) hp) d_B_find_5 (by omega) h1 rfl rfl (by decide) (Nat.le_of_ble_eq_true rfl) (by decide) (st := []) rfl (kRd ?_)
    show G 0 0 8 [some (.ref (q 0)), some (.int (nI p0)), none] [.int (nI 1)] N q f
    refine zr_if_net (tgt := 13) X d_B_find_8 rfl (by decide) ?_
    refine zr_aload_n X d_B_find_13 rfl ?_
    refine zr_get X F_B_18 d_B_find_14 (by omega) h0 (v := .ref (q 3)) rfl ?_
    refine zr_get X F_B_55 d_B_find_17 (by omega) h3 (v := .int (nI k)) rfl ?_
    refine zr_if_net (tgt := 26) X d_B_find_20 rfl (nI_ne0 hk0 (by omega)) ?_
    refine zr_iload_n X d_B_find_26 rfl ?_
    refine zr_istore_n (lv' := [some (.ref (q 0)), some (.int (nI p0)), some (.int (nI p0))]) X d_B_find_27 (by decide) rfl ?_
    by_cases hpk : p0 ≤ sz - k + 1
    · exact loop (sz - k + 1 - p0) p0 (by omega) (Nat.le_refl _) (fun p' h1 h2 => absurd h2 (by omega))
    · skip
      show G 0 0 28 [some (.ref (q 0)), some (.int (nI p0)), some (.int (nI p0))] [] N q f
      refine zr_iload_n X d_B_find_28 rfl ?_
      refine zr_aload_n X d_B_find_29 rfl ?_
      refine zr_get X F_B_14 d_B_find_30 (by omega) h0 (v := .ref (q 1)) rfl ?_
      refine zr_get X F_B_55 d_B_find_33 (by omega) h1 (v := .int (nI sz)) rfl ?_
      refine zr_aload_n X d_B_find_36 rfl ?_
      refine zr_get X F_B_18 d_B_find_37 (by omega) h0 (v := .ref (q 3)) rfl ?_
      refine zr_get X F_B_55 d_B_find_40 (by omega) h3 (v := .int (nI k)) rfl ?_
      refine zr_isub (z := nI (sz - k)) X d_B_find_43 (pk_sub (by omega)) ?_
      refine zr_icmp_gtt (tgt := 70) X d_B_find_44 rfl (nI_lt (by omega) (by omega)) ?_
      refine zr_bipush (v := (-4)) X d_B_find_70 (by decide) ?_
      refine zr_ireturn Y d_B_find_72 rfl (Nat.le_of_ble_eq_true rfl) (Nat.le_of_ble_eq_true rfl) ?_
      refine ⟨_, rfl, rfl, rfl, rfl, Or.inr ⟨rfl, fun p9 hp8 h9 => ?_⟩⟩
      have := h9.1
      omega
  · skip
    refine zr_aload_n X d_B_find_0 rfl ?_
    refine zr_get X F_B_14 d_B_find_1 (by omega) h0 (v := .ref (q 1)) rfl ?_
    refine zr_iload_n X d_B_find_4 rfl ?_
    refine zr_callV X K_B_72 KI_B_72 KS_B_72 (c_R_hasPosition_y (by omega) h1 (by omega) hp) d_B_find_5 (by omega) h1 rfl rfl (by decide) (Nat.le_of_ble_eq_true rfl) (by decide) (st := []) rfl (kRd ?_)
    show G 0 0 8 [some (.ref (q 0)), some (.int (nI p0)), none] [.int (nI 1)] N q f
    refine zr_if_net (tgt := 13) X d_B_find_8 rfl (by decide) ?_
    refine zr_aload_n X d_B_find_13 rfl ?_
    refine zr_get X F_B_18 d_B_find_14 (by omega) h0 (v := .ref (q 3)) rfl ?_
    refine zr_get X F_B_55 d_B_find_17 (by omega) h3 (v := .int (nI k)) rfl ?_
    refine zr_if_net (tgt := 26) X d_B_find_20 rfl (nI_ne0 hk0 (by omega)) ?_
    refine zr_iload_n X d_B_find_26 rfl ?_
    refine zr_istore_n (lv' := [some (.ref (q 0)), some (.int (nI p0)), some (.int (nI p0))]) X d_B_find_27 (by decide) rfl ?_
    refine zr_iload_n X d_B_find_28 rfl ?_
    refine zr_aload_n X d_B_find_29 rfl ?_
    refine zr_get X F_B_14 d_B_find_30 (by omega) h0 (v := .ref (q 1)) rfl ?_
    refine zr_get X F_B_55 d_B_find_33 (by omega) h1 (v := .int (nI sz)) rfl ?_
    refine zr_aload_n X d_B_find_36 rfl ?_
    refine zr_get X F_B_18 d_B_find_37 (by omega) h0 (v := .ref (q 3)) rfl ?_
    refine zr_get X F_B_55 d_B_find_40 (by omega) h3 (v := .int (nI k)) rfl ?_
    refine zr_isub (z := nI sz - nI k) X d_B_find_43 rfl ?_
    refine zr_icmp_gtt (tgt := 70) X d_B_find_44 rfl (Int32.lt_of_lt_of_le (pk_sneg (by omega) (by omega)) (nI_pos' (by omega))) ?_
    refine zr_bipush (v := (-4)) X d_B_find_70 (by decide) ?_
    refine zr_ireturn Y d_B_find_72 rfl (Nat.le_of_ble_eq_true rfl) (Nat.le_of_ble_eq_true rfl) ?_
    refine ⟨_, rfl, rfl, rfl, rfl, Or.inr ⟨rfl, fun p9 hp8 h9 => ?_⟩⟩
    have := h9.1
    omega

set_option maxRecDepth 100000 in
set_option maxHeartbeats 4000000 in
theorem c_B_find_n {l : Launch} {D : va_G} {cI cC cZ cV : ClassId} {N : Nat} {q : Nat → Nat} {f : zF} (hN : 23 ≤ N) {n ins jt : Nat} (h0 : f 0 = zbo q n ins jt) {sz : Nat} (h1 : f 1 = zrow q 2 sz) {x : Int32} (hx : zNo x sz) : zC l y_B_find b_B_find 3 (some .int) (rmD 1 0 0) D (zty cI cC cZ cV) [.ref (q 0), .int x] N q f (pRd N q f (-1)) := by
  refine zC.of (by decide) (by simp [Value.category]) (Nat.le_of_ble_eq_true rfl) (fun G X Y => ?_)
  show G 0 0 0 [some (.ref (q 0)), some (.int x), none] [] N q f
  refine zr_aload_n X d_B_find_0 rfl ?_
  refine zr_get X F_B_14 d_B_find_1 (by omega) h0 (v := .ref (q 1)) rfl ?_
  refine zr_iload_n X d_B_find_4 rfl ?_
  refine zr_callV X K_B_72 KI_B_72 KS_B_72 (c_R_hasPosition_n (by omega) h1 hx) d_B_find_5 (by omega) h1 rfl rfl (by decide) (Nat.le_of_ble_eq_true rfl) (by decide) (st := []) rfl (kRd ?_)
  show G 0 0 8 [some (.ref (q 0)), some (.int x), none] [.int (nI 0)] N q f
  refine zr_if_nef (tgt := 13) X d_B_find_8 rfl (by decide) ?_
  refine zr_iconst (v := (-1)) X d_B_find_11 (by decide) ?_
  refine zr_ireturn Y d_B_find_12 rfl (Nat.le_of_ble_eq_true rfl) (Nat.le_of_ble_eq_true rfl) ?_
  exact ⟨rfl, rfl, rfl, rfl⟩

set_option maxRecDepth 100000 in
set_option maxHeartbeats 4000000 in
theorem c_B_find_e {l : Launch} {D : va_G} {cI cC cZ cV : ClassId} {N : Nat} {q : Nat → Nat} {f : zF} (hN : 23 ≤ N) {n ins jt : Nat} (h0 : f 0 = zbo q n ins jt) {sz : Nat} (h1 : f 1 = zrow q 2 sz) {k : Nat} (h3 : f 3 = zrow q 4 k) {p0 : Nat} (hp : p0 ≤ sz) (hs : sz ≤ 2000) (hk0 : k = 0) : zC l y_B_find b_B_find 3 (some .int) (rmD 1 0 0) D (zty cI cC cZ cV) [.ref (q 0), .int (nI p0)] N q f (pRd N q f (-2)) := by
  refine zC.of (by decide) (by simp [Value.category]) (Nat.le_of_ble_eq_true rfl) (fun G X Y => ?_)
  show G 0 0 0 [some (.ref (q 0)), some (.int (nI p0)), none] [] N q f
  refine zr_aload_n X d_B_find_0 rfl ?_
  refine zr_get X F_B_14 d_B_find_1 (by omega) h0 (v := .ref (q 1)) rfl ?_
  refine zr_iload_n X d_B_find_4 rfl ?_
  refine zr_callV X K_B_72 KI_B_72 KS_B_72 (c_R_hasPosition_y (by omega) h1 (by omega) hp) d_B_find_5 (by omega) h1 rfl rfl (by decide) (Nat.le_of_ble_eq_true rfl) (by decide) (st := []) rfl (kRd ?_)
  show G 0 0 8 [some (.ref (q 0)), some (.int (nI p0)), none] [.int (nI 1)] N q f
  refine zr_if_net (tgt := 13) X d_B_find_8 rfl (by decide) ?_
  refine zr_aload_n X d_B_find_13 rfl ?_
  refine zr_get X F_B_18 d_B_find_14 (by omega) h0 (v := .ref (q 3)) rfl ?_
  refine zr_get X F_B_55 d_B_find_17 (by omega) h3 (v := .int (nI k)) rfl ?_
  refine zr_if_nef (tgt := 26) X d_B_find_20 rfl (by rw [hk0]; rfl) ?_
  refine zr_bipush (v := (-2)) X d_B_find_23 (by decide) ?_
  refine zr_ireturn Y d_B_find_25 rfl (Nat.le_of_ble_eq_true rfl) (Nat.le_of_ble_eq_true rfl) ?_
  exact ⟨rfl, rfl, rfl, rfl⟩

set_option maxRecDepth 100000 in
set_option maxHeartbeats 4000000 in
theorem c_B_mark_y {l : Launch} {D : va_G} {cI cC cZ cV : ClassId} {N : Nat} {q : Nat → Nat} {f : zF} (hN : 23 ≤ N) {n ins jt : Nat} (h0 : f 0 = zbo q n ins jt) {sz : Nat} (h1 : f 1 = zrow q 2 sz)  (h5 : f 5 = .inr (iM, [.ref (q 6), .ref (q 7)])) {mp : Nat → Int32} (h6 : f 6 = .inl (cI, 6, .inl mp)) {mr : Nat → Int32} (h7 : f 7 = .inl (cZ, 6, .inl mr)) {m p : Nat} {r : Int32} (hm : m < 6) (hp : p ≤ sz) (hs : sz ≤ 2000) (hr : vp_nar .boolean r = r) : zC l y_B_mark b_B_mark 4 (some .boolean) (rmD 1 0 0) D (zty cI cC cZ cV) [.ref (q 0), .int (nI m), .int (nI p), .int r] N q f (fun v N' q' f' => v = some (.int (nI 1)) ∧ N' = N ∧ q' = q ∧ f' = va_up (va_up f 6 (.inl (cI, 6, .inl (upd mp m (nI p))))) 7 (.inl (cZ, 6, .inl (upd mr m r)))) := by
  refine zC.of (by decide) (by simp [Value.category]) (Nat.le_of_ble_eq_true rfl) (fun G X Y => ?_)
  show G 0 0 0 [some (.ref (q 0)), some (.int (nI m)), some (.int (nI p)), some (.int r)] [] N q f
  refine zr_iload_n X d_B_mark_0 rfl ?_
  refine zr_callS X K_B_121 KS_B_121 (c_B_isMark_y hm) d_B_mark_1 rfl (by decide) (Nat.le_of_ble_eq_true rfl) (by decide) (st := []) rfl (kRd ?_)
  show G 0 0 4 [some (.ref (q 0)), some (.int (nI m)), some (.int (nI p)), some (.int r)] [.int (nI 1)] N q f
  refine zr_if_eqf (tgt := 18) X d_B_mark_4 rfl (by decide) ?_
  refine zr_aload_n X d_B_mark_7 rfl ?_
  refine zr_get X F_B_14 d_B_mark_8 (by omega) h0 (v := .ref (q 1)) rfl ?_
  refine zr_iload_n X d_B_mark_11 rfl ?_
  refine zr_callV X K_B_72 KI_B_72 KS_B_72 (c_R_hasPosition_y (by omega) h1 (by omega) hp) d_B_mark_12 (by omega) h1 rfl rfl (by decide) (Nat.le_of_ble_eq_true rfl) (by decide) (st := []) rfl (kRd ?_)
  show G 0 0 15 [some (.ref (q 0)), some (.int (nI m)), some (.int (nI p)), some (.int r)] [.int (nI 1)] N q f
  refine zr_if_net (tgt := 20) X d_B_mark_15 rfl (by decide) ?_
  refine zr_aload_n X d_B_mark_20 rfl ?_
  refine zr_get X F_B_24 d_B_mark_21 (by omega) h0 (v := .ref (q 5)) rfl ?_
  refine zr_get X F_B_124 d_B_mark_24 (by omega) h5 (v := .ref (q 6)) rfl ?_
  refine zr_iload_n X d_B_mark_27 rfl ?_
  refine zr_iload_n X d_B_mark_28 rfl ?_
  refine zr_iastore X 0 d_B_mark_29 (by omega) h6 rfl (by omega) (by decide) ?_
  refine zr_aload_n X d_B_mark_30 rfl ?_
  refine zr_get X F_B_24 d_B_mark_31 (by omega) (up_ne (by decide) h0) (v := .ref (q 5)) rfl ?_
  refine zr_get X F_B_128 d_B_mark_34 (by omega) (up_ne (by decide) h5) (v := .ref (q 7)) rfl ?_
  refine zr_iload_n X d_B_mark_37 rfl ?_
  refine zr_iload_n X d_B_mark_38 rfl ?_
  refine zr_bastore X 2 d_B_mark_39 (by omega) (up_ne (by decide) h7) rfl (by omega) (by decide) hr ?_
  refine zr_iconst (v := nI 1) X d_B_mark_40 (by decide) ?_
  refine zr_ireturn Y d_B_mark_41 rfl (Nat.le_of_ble_eq_true rfl) (Nat.le_of_ble_eq_true rfl) ?_
  exact ⟨rfl, rfl, rfl, rfl⟩

set_option maxRecDepth 100000 in
set_option maxHeartbeats 4000000 in
theorem c_B_mark_n1 {l : Launch} {D : va_G} {cI cC cZ cV : ClassId} {N : Nat} {q : Nat → Nat} {f : zF} (hN : 23 ≤ N) {n ins jt : Nat} (h0 : f 0 = zbo q n ins jt) {x y r : Int32} (hx : zNo x 5) : zC l y_B_mark b_B_mark 4 (some .boolean) (rmD 1 0 0) D (zty cI cC cZ cV) [.ref (q 0), .int x, .int y, .int r] N q f (pRd N q f (nI 0)) := by
  refine zC.of (by decide) (by simp [Value.category]) (Nat.le_of_ble_eq_true rfl) (fun G X Y => ?_)
  show G 0 0 0 [some (.ref (q 0)), some (.int x), some (.int y), some (.int r)] [] N q f
  refine zr_iload_n X d_B_mark_0 rfl ?_
  refine zr_callS X K_B_121 KS_B_121 (c_B_isMark_n hx) d_B_mark_1 rfl (by decide) (Nat.le_of_ble_eq_true rfl) (by decide) (st := []) rfl (kRd ?_)
  show G 0 0 4 [some (.ref (q 0)), some (.int x), some (.int y), some (.int r)] [.int (nI 0)] N q f
  refine zr_if_eqt (tgt := 18) X d_B_mark_4 rfl (by decide) ?_
  refine zr_iconst (v := nI 0) X d_B_mark_18 (by decide) ?_
  refine zr_ireturn Y d_B_mark_19 rfl (Nat.le_of_ble_eq_true rfl) (Nat.le_of_ble_eq_true rfl) ?_
  exact ⟨rfl, rfl, rfl, rfl⟩

set_option maxRecDepth 100000 in
set_option maxHeartbeats 4000000 in
theorem c_B_mark_n2 {l : Launch} {D : va_G} {cI cC cZ cV : ClassId} {N : Nat} {q : Nat → Nat} {f : zF} (hN : 23 ≤ N) {n ins jt : Nat} (h0 : f 0 = zbo q n ins jt) {sz : Nat} (h1 : f 1 = zrow q 2 sz) {m : Nat} {y r : Int32} (hm : m < 6) (hy : zNo y sz) : zC l y_B_mark b_B_mark 4 (some .boolean) (rmD 1 0 0) D (zty cI cC cZ cV) [.ref (q 0), .int (nI m), .int y, .int r] N q f (pRd N q f (nI 0)) := by
  refine zC.of (by decide) (by simp [Value.category]) (Nat.le_of_ble_eq_true rfl) (fun G X Y => ?_)
  show G 0 0 0 [some (.ref (q 0)), some (.int (nI m)), some (.int y), some (.int r)] [] N q f
  refine zr_iload_n X d_B_mark_0 rfl ?_
  refine zr_callS X K_B_121 KS_B_121 (c_B_isMark_y hm) d_B_mark_1 rfl (by decide) (Nat.le_of_ble_eq_true rfl) (by decide) (st := []) rfl (kRd ?_)
  show G 0 0 4 [some (.ref (q 0)), some (.int (nI m)), some (.int y), some (.int r)] [.int (nI 1)] N q f
  refine zr_if_eqf (tgt := 18) X d_B_mark_4 rfl (by decide) ?_
  refine zr_aload_n X d_B_mark_7 rfl ?_
  refine zr_get X F_B_14 d_B_mark_8 (by omega) h0 (v := .ref (q 1)) rfl ?_
  refine zr_iload_n X d_B_mark_11 rfl ?_
  refine zr_callV X K_B_72 KI_B_72 KS_B_72 (c_R_hasPosition_n (by omega) h1 hy) d_B_mark_12 (by omega) h1 rfl rfl (by decide) (Nat.le_of_ble_eq_true rfl) (by decide) (st := []) rfl (kRd ?_)
  show G 0 0 15 [some (.ref (q 0)), some (.int (nI m)), some (.int y), some (.int r)] [.int (nI 0)] N q f
  refine zr_if_nef (tgt := 20) X d_B_mark_15 rfl (by decide) ?_
  refine zr_iconst (v := nI 0) X d_B_mark_18 (by decide) ?_
  refine zr_ireturn Y d_B_mark_19 rfl (Nat.le_of_ble_eq_true rfl) (Nat.le_of_ble_eq_true rfl) ?_
  exact ⟨rfl, rfl, rfl, rfl⟩

set_option maxRecDepth 100000 in
set_option maxHeartbeats 4000000 in
theorem c_B_unmark_y {l : Launch} {D : va_G} {cI cC cZ cV : ClassId} {N : Nat} {q : Nat → Nat} {f : zF} (hN : 23 ≤ N) {n ins jt : Nat} (h0 : f 0 = zbo q n ins jt)  (h5 : f 5 = .inr (iM, [.ref (q 6), .ref (q 7)])) {mp : Nat → Int32} (h6 : f 6 = .inl (cI, 6, .inl mp)) {m : Nat} (hm : m < 6) (hi : ¬ mp m = -1) : zC l y_B_unmark b_B_unmark 2 (some .boolean) (rmD 1 0 0) D (zty cI cC cZ cV) [.ref (q 0), .int (nI m)] N q f (fun v N' q' f' => v = some (.int (nI 1)) ∧ N' = N ∧ q' = q ∧ f' = va_up f 6 (.inl (cI, 6, .inl (upd mp m (-1))))) := by
  refine zC.of (by decide) (by simp [Value.category]) (Nat.le_of_ble_eq_true rfl) (fun G X Y => ?_)
  show G 0 0 0 [some (.ref (q 0)), some (.int (nI m))] [] N q f
  refine zr_iload_n X d_B_unmark_0 rfl ?_
  refine zr_callS X K_B_121 KS_B_121 (c_B_isMark_y hm) d_B_unmark_1 rfl (by decide) (Nat.le_of_ble_eq_true rfl) (by decide) (st := []) rfl (kRd ?_)
  show G 0 0 4 [some (.ref (q 0)), some (.int (nI m))] [.int (nI 1)] N q f
  refine zr_if_eqf (tgt := 20) X d_B_unmark_4 rfl (by decide) ?_
  refine zr_aload_n X d_B_unmark_7 rfl ?_
  refine zr_get X F_B_24 d_B_unmark_8 (by omega) h0 (v := .ref (q 5)) rfl ?_
  refine zr_get X F_B_124 d_B_unmark_11 (by omega) h5 (v := .ref (q 6)) rfl ?_
  refine zr_iload_n X d_B_unmark_14 rfl ?_
  refine zr_iaload (v := mp m) X 0 d_B_unmark_15 (by omega) h6 rfl (by omega) (by decide) rfl ?_
  refine zr_iconst (v := (-1)) X d_B_unmark_16 (by decide) ?_
  refine zr_icmp_net (tgt := 22) X d_B_unmark_17 rfl hi ?_
  refine zr_aload_n X d_B_unmark_22 rfl ?_
  refine zr_get X F_B_24 d_B_unmark_23 (by omega) h0 (v := .ref (q 5)) rfl ?_
  refine zr_get X F_B_124 d_B_unmark_26 (by omega) h5 (v := .ref (q 6)) rfl ?_
  refine zr_iload_n X d_B_unmark_29 rfl ?_
  refine zr_iconst (v := (-1)) X d_B_unmark_30 (by decide) ?_
  refine zr_iastore X 0 d_B_unmark_31 (by omega) h6 rfl (by omega) (by decide) ?_
  refine zr_iconst (v := nI 1) X d_B_unmark_32 (by decide) ?_
  refine zr_ireturn Y d_B_unmark_33 rfl (Nat.le_of_ble_eq_true rfl) (Nat.le_of_ble_eq_true rfl) ?_
  exact ⟨rfl, rfl, rfl, rfl⟩

set_option maxRecDepth 100000 in
set_option maxHeartbeats 4000000 in
theorem c_B_unmark_0 {l : Launch} {D : va_G} {cI cC cZ cV : ClassId} {N : Nat} {q : Nat → Nat} {f : zF} (hN : 23 ≤ N) {n ins jt : Nat} (h0 : f 0 = zbo q n ins jt)  (h5 : f 5 = .inr (iM, [.ref (q 6), .ref (q 7)])) {mp : Nat → Int32} (h6 : f 6 = .inl (cI, 6, .inl mp)) {m : Nat} (hm : m < 6) (hi : mp m = -1) : zC l y_B_unmark b_B_unmark 2 (some .boolean) (rmD 1 0 0) D (zty cI cC cZ cV) [.ref (q 0), .int (nI m)] N q f (pRd N q f (nI 0)) := by
  refine zC.of (by decide) (by simp [Value.category]) (Nat.le_of_ble_eq_true rfl) (fun G X Y => ?_)
  show G 0 0 0 [some (.ref (q 0)), some (.int (nI m))] [] N q f
  refine zr_iload_n X d_B_unmark_0 rfl ?_
  refine zr_callS X K_B_121 KS_B_121 (c_B_isMark_y hm) d_B_unmark_1 rfl (by decide) (Nat.le_of_ble_eq_true rfl) (by decide) (st := []) rfl (kRd ?_)
  show G 0 0 4 [some (.ref (q 0)), some (.int (nI m))] [.int (nI 1)] N q f
  refine zr_if_eqf (tgt := 20) X d_B_unmark_4 rfl (by decide) ?_
  refine zr_aload_n X d_B_unmark_7 rfl ?_
  refine zr_get X F_B_24 d_B_unmark_8 (by omega) h0 (v := .ref (q 5)) rfl ?_
  refine zr_get X F_B_124 d_B_unmark_11 (by omega) h5 (v := .ref (q 6)) rfl ?_
  refine zr_iload_n X d_B_unmark_14 rfl ?_
  refine zr_iaload (v := mp m) X 0 d_B_unmark_15 (by omega) h6 rfl (by omega) (by decide) rfl ?_
  refine zr_iconst (v := (-1)) X d_B_unmark_16 (by decide) ?_
  refine zr_icmp_nef (tgt := 22) X d_B_unmark_17 rfl hi ?_
  refine zr_iconst (v := nI 0) X d_B_unmark_20 (by decide) ?_
  refine zr_ireturn Y d_B_unmark_21 rfl (Nat.le_of_ble_eq_true rfl) (Nat.le_of_ble_eq_true rfl) ?_
  exact ⟨rfl, rfl, rfl, rfl⟩

set_option maxRecDepth 100000 in
set_option maxHeartbeats 4000000 in
theorem c_B_unmark_n {l : Launch} {D : va_G} {cI cC cZ cV : ClassId} {N : Nat} {q : Nat → Nat} {f : zF} (hN : 23 ≤ N) {n ins jt : Nat} (h0 : f 0 = zbo q n ins jt) {x : Int32} (hx : zNo x 5) : zC l y_B_unmark b_B_unmark 2 (some .boolean) (rmD 1 0 0) D (zty cI cC cZ cV) [.ref (q 0), .int x] N q f (pRd N q f (nI 0)) := by
  refine zC.of (by decide) (by simp [Value.category]) (Nat.le_of_ble_eq_true rfl) (fun G X Y => ?_)
  show G 0 0 0 [some (.ref (q 0)), some (.int x)] [] N q f
  refine zr_iload_n X d_B_unmark_0 rfl ?_
  refine zr_callS X K_B_121 KS_B_121 (c_B_isMark_n hx) d_B_unmark_1 rfl (by decide) (Nat.le_of_ble_eq_true rfl) (by decide) (st := []) rfl (kRd ?_)
  show G 0 0 4 [some (.ref (q 0)), some (.int x)] [.int (nI 0)] N q f
  refine zr_if_eqt (tgt := 20) X d_B_unmark_4 rfl (by decide) ?_
  refine zr_iconst (v := nI 0) X d_B_unmark_20 (by decide) ?_
  refine zr_ireturn Y d_B_unmark_21 rfl (Nat.le_of_ble_eq_true rfl) (Nat.le_of_ble_eq_true rfl) ?_
  exact ⟨rfl, rfl, rfl, rfl⟩

set_option maxRecDepth 100000 in
set_option maxHeartbeats 4000000 in
theorem c_B_where_y {l : Launch} {D : va_G} {cI cC cZ cV : ClassId} {N : Nat} {q : Nat → Nat} {f : zF} (hN : 23 ≤ N) {n ins jt : Nat} (h0 : f 0 = zbo q n ins jt)  (h5 : f 5 = .inr (iM, [.ref (q 6), .ref (q 7)])) {mp : Nat → Int32} (h6 : f 6 = .inl (cI, 6, .inl mp)) {m : Nat} (hm : m < 6) (hi : ¬ mp m = -1) : zC l y_B_where b_B_where 2 (some .int) (rmD 1 0 0) D (zty cI cC cZ cV) [.ref (q 0), .int (nI m)] N q f (pRd N q f (mp m)) := by
  refine zC.of (by decide) (by simp [Value.category]) (Nat.le_of_ble_eq_true rfl) (fun G X Y => ?_)
  show G 0 0 0 [some (.ref (q 0)), some (.int (nI m))] [] N q f
  refine zr_iload_n X d_B_where_0 rfl ?_
  refine zr_callS X K_B_121 KS_B_121 (c_B_isMark_y hm) d_B_where_1 rfl (by decide) (Nat.le_of_ble_eq_true rfl) (by decide) (st := []) rfl (kRd ?_)
  show G 0 0 4 [some (.ref (q 0)), some (.int (nI m))] [.int (nI 1)] N q f
  refine zr_if_eqf (tgt := 20) X d_B_where_4 rfl (by decide) ?_
  refine zr_aload_n X d_B_where_7 rfl ?_
  refine zr_get X F_B_24 d_B_where_8 (by omega) h0 (v := .ref (q 5)) rfl ?_
  refine zr_get X F_B_124 d_B_where_11 (by omega) h5 (v := .ref (q 6)) rfl ?_
  refine zr_iload_n X d_B_where_14 rfl ?_
  refine zr_iaload (v := mp m) X 0 d_B_where_15 (by omega) h6 rfl (by omega) (by decide) rfl ?_
  refine zr_iconst (v := (-1)) X d_B_where_16 (by decide) ?_
  refine zr_icmp_net (tgt := 22) X d_B_where_17 rfl hi ?_
  refine zr_aload_n X d_B_where_22 rfl ?_
  refine zr_get X F_B_24 d_B_where_23 (by omega) h0 (v := .ref (q 5)) rfl ?_
  refine zr_get X F_B_124 d_B_where_26 (by omega) h5 (v := .ref (q 6)) rfl ?_
  refine zr_iload_n X d_B_where_29 rfl ?_
  refine zr_iaload (v := mp m) X 0 d_B_where_30 (by omega) h6 rfl (by omega) (by decide) rfl ?_
  refine zr_ireturn Y d_B_where_31 rfl (Nat.le_of_ble_eq_true rfl) (Nat.le_of_ble_eq_true rfl) ?_
  exact ⟨rfl, rfl, rfl, rfl⟩

set_option maxRecDepth 100000 in
set_option maxHeartbeats 4000000 in
theorem c_B_where_0 {l : Launch} {D : va_G} {cI cC cZ cV : ClassId} {N : Nat} {q : Nat → Nat} {f : zF} (hN : 23 ≤ N) {n ins jt : Nat} (h0 : f 0 = zbo q n ins jt)  (h5 : f 5 = .inr (iM, [.ref (q 6), .ref (q 7)])) {mp : Nat → Int32} (h6 : f 6 = .inl (cI, 6, .inl mp)) {m : Nat} (hm : m < 6) (hi : mp m = -1) : zC l y_B_where b_B_where 2 (some .int) (rmD 1 0 0) D (zty cI cC cZ cV) [.ref (q 0), .int (nI m)] N q f (pRd N q f (-1)) := by
  refine zC.of (by decide) (by simp [Value.category]) (Nat.le_of_ble_eq_true rfl) (fun G X Y => ?_)
  show G 0 0 0 [some (.ref (q 0)), some (.int (nI m))] [] N q f
  refine zr_iload_n X d_B_where_0 rfl ?_
  refine zr_callS X K_B_121 KS_B_121 (c_B_isMark_y hm) d_B_where_1 rfl (by decide) (Nat.le_of_ble_eq_true rfl) (by decide) (st := []) rfl (kRd ?_)
  show G 0 0 4 [some (.ref (q 0)), some (.int (nI m))] [.int (nI 1)] N q f
  refine zr_if_eqf (tgt := 20) X d_B_where_4 rfl (by decide) ?_
  refine zr_aload_n X d_B_where_7 rfl ?_
  refine zr_get X F_B_24 d_B_where_8 (by omega) h0 (v := .ref (q 5)) rfl ?_
  refine zr_get X F_B_124 d_B_where_11 (by omega) h5 (v := .ref (q 6)) rfl ?_
  refine zr_iload_n X d_B_where_14 rfl ?_
  refine zr_iaload (v := mp m) X 0 d_B_where_15 (by omega) h6 rfl (by omega) (by decide) rfl ?_
  refine zr_iconst (v := (-1)) X d_B_where_16 (by decide) ?_
  refine zr_icmp_nef (tgt := 22) X d_B_where_17 rfl hi ?_
  refine zr_iconst (v := (-1)) X d_B_where_20 (by decide) ?_
  refine zr_ireturn Y d_B_where_21 rfl (Nat.le_of_ble_eq_true rfl) (Nat.le_of_ble_eq_true rfl) ?_
  exact ⟨rfl, rfl, rfl, rfl⟩

set_option maxRecDepth 100000 in
set_option maxHeartbeats 4000000 in
theorem c_B_where_n {l : Launch} {D : va_G} {cI cC cZ cV : ClassId} {N : Nat} {q : Nat → Nat} {f : zF} (hN : 23 ≤ N) {n ins jt : Nat} (h0 : f 0 = zbo q n ins jt) {x : Int32} (hx : zNo x 5) : zC l y_B_where b_B_where 2 (some .int) (rmD 1 0 0) D (zty cI cC cZ cV) [.ref (q 0), .int x] N q f (pRd N q f (-1)) := by
  refine zC.of (by decide) (by simp [Value.category]) (Nat.le_of_ble_eq_true rfl) (fun G X Y => ?_)
  show G 0 0 0 [some (.ref (q 0)), some (.int x)] [] N q f
  refine zr_iload_n X d_B_where_0 rfl ?_
  refine zr_callS X K_B_121 KS_B_121 (c_B_isMark_n hx) d_B_where_1 rfl (by decide) (Nat.le_of_ble_eq_true rfl) (by decide) (st := []) rfl (kRd ?_)
  show G 0 0 4 [some (.ref (q 0)), some (.int x)] [.int (nI 0)] N q f
  refine zr_if_eqt (tgt := 20) X d_B_where_4 rfl (by decide) ?_
  refine zr_iconst (v := (-1)) X d_B_where_20 (by decide) ?_
  refine zr_ireturn Y d_B_where_21 rfl (Nat.le_of_ble_eq_true rfl) (Nat.le_of_ble_eq_true rfl) ?_
  exact ⟨rfl, rfl, rfl, rfl⟩

set_option maxRecDepth 100000 in
set_option maxHeartbeats 4000000 in
theorem c_B_nextMark_y {l : Launch} {D : va_G} {cI cC cZ cV : ClassId} {N : Nat} {q : Nat → Nat} {f : zF} (hN : 23 ≤ N) {n ins jt : Nat} (h0 : f 0 = zbo q n ins jt) {sz : Nat} (h1 : f 1 = zrow q 2 sz)  (h5 : f 5 = .inr (iM, [.ref (q 6), .ref (q 7)])) {mp : Nat → Int32} (h6 : f 6 = .inl (cI, 6, .inl mp)) {p : Nat} (hp : p ≤ sz) (hs : sz ≤ 2000) {x : Int32} (hx : nI p = x) : zC l y_B_nextMark b_B_nextMark 2 (some .int) (rmD 1 0 0) D (zty cI cC cZ cV) [.ref (q 0), .int x] N q f (pRd N q f (zfi (zff mp x 6))) := by
  refine zC.of (by decide) (by simp [Value.category]) (Nat.le_of_ble_eq_true rfl) (fun G X Y => ?_)
  show G 0 0 0 [some (.ref (q 0)), some (.int x)] [] N q f
  refine zr_aload_n X d_B_nextMark_0 rfl ?_
  refine zr_get X F_B_14 d_B_nextMark_1 (by omega) h0 (v := .ref (q 1)) rfl ?_
  refine zr_iload_n X d_B_nextMark_4 rfl ?_
  refine zr_callV X K_B_72 KI_B_72 KS_B_72 (hx ▸ c_R_hasPosition_y (by omega) h1 (by omega) hp) d_B_nextMark_5 (by omega) h1 rfl rfl (by decide) (Nat.le_of_ble_eq_true rfl) (by decide) (st := []) rfl (kRd ?_)
  show G 0 0 8 [some (.ref (q 0)), some (.int x)] [.int (nI 1)] N q f
  refine zr_if_eqf (tgt := 22) X d_B_nextMark_8 rfl (by decide) ?_
  refine zr_aload_n X d_B_nextMark_11 rfl ?_
  refine zr_get X F_B_24 d_B_nextMark_12 (by omega) h0 (v := .ref (q 5)) rfl ?_
  refine zr_iload_n X d_B_nextMark_15 rfl ?_
  refine zr_callV X K_B_132 KI_B_132 KS_B_132 (c_M_firstFrom (by omega) h5 (by omega) h6) d_B_nextMark_16 (by omega) h5 rfl rfl (by decide) (Nat.le_of_ble_eq_true rfl) (by decide) (st := []) rfl (kRd ?_)
  show G 0 0 19 [some (.ref (q 0)), some (.int x)] [.int (zfi (zff mp x 6))] N q f
  refine zr_goto (tgt := 23) X d_B_nextMark_19 rfl ?_
  refine zr_ireturn Y d_B_nextMark_23 rfl (Nat.le_of_ble_eq_true rfl) (Nat.le_of_ble_eq_true rfl) ?_
  exact ⟨rfl, rfl, rfl, rfl⟩

set_option maxRecDepth 100000 in
set_option maxHeartbeats 4000000 in
theorem c_B_nextMark_n {l : Launch} {D : va_G} {cI cC cZ cV : ClassId} {N : Nat} {q : Nat → Nat} {f : zF} (hN : 23 ≤ N) {n ins jt : Nat} (h0 : f 0 = zbo q n ins jt) {sz : Nat} (h1 : f 1 = zrow q 2 sz) {x : Int32} (hx : zNo x sz) : zC l y_B_nextMark b_B_nextMark 2 (some .int) (rmD 1 0 0) D (zty cI cC cZ cV) [.ref (q 0), .int x] N q f (pRd N q f (-1)) := by
  refine zC.of (by decide) (by simp [Value.category]) (Nat.le_of_ble_eq_true rfl) (fun G X Y => ?_)
  show G 0 0 0 [some (.ref (q 0)), some (.int x)] [] N q f
  refine zr_aload_n X d_B_nextMark_0 rfl ?_
  refine zr_get X F_B_14 d_B_nextMark_1 (by omega) h0 (v := .ref (q 1)) rfl ?_
  refine zr_iload_n X d_B_nextMark_4 rfl ?_
  refine zr_callV X K_B_72 KI_B_72 KS_B_72 (c_R_hasPosition_n (by omega) h1 hx) d_B_nextMark_5 (by omega) h1 rfl rfl (by decide) (Nat.le_of_ble_eq_true rfl) (by decide) (st := []) rfl (kRd ?_)
  show G 0 0 8 [some (.ref (q 0)), some (.int x)] [.int (nI 0)] N q f
  refine zr_if_eqt (tgt := 22) X d_B_nextMark_8 rfl (by decide) ?_
  refine zr_iconst (v := (-1)) X d_B_nextMark_22 (by decide) ?_
  refine zr_ireturn Y d_B_nextMark_23 rfl (Nat.le_of_ble_eq_true rfl) (Nat.le_of_ble_eq_true rfl) ?_
  exact ⟨rfl, rfl, rfl, rfl⟩

set_option maxRecDepth 100000 in
set_option maxHeartbeats 4000000 in
theorem c_B_version {l : Launch} {D : va_G} {cI cC cZ cV : ClassId} {N : Nat} {q : Nat → Nat} {f : zF} (hN : 23 ≤ N) {n ins jv : Nat} (h0 : f 0 = zbo q n ins jv) {num at_ jp cc : Nat} {com : Int32} {pr lat : Value} (hjv : jv < N) (hv : f jv = zver q num pr com at_ jp cc lat) : zC l y_B_version b_B_version 1 (some .int) (rmD 0 0 0) D (zty cI cC cZ cV) [.ref (q 0)] N q f (pRd N q f (nI num)) := by
  refine zC.of (by decide) (by simp [Value.category]) (Nat.le_of_ble_eq_true rfl) (fun G X Y => ?_)
  show G 0 0 0 [some (.ref (q 0))] [] N q f
  refine zr_aload_n X d_B_version_0 rfl ?_
  refine zr_get X F_B_40 d_B_version_1 (by omega) h0 (v := .ref (q jv)) rfl ?_
  refine zr_get X F_B_91 d_B_version_4 (by omega) hv (v := .int (nI num)) rfl ?_
  refine zr_ireturn Y d_B_version_7 rfl (Nat.le_of_ble_eq_true rfl) (Nat.le_of_ble_eq_true rfl) ?_
  exact ⟨rfl, rfl, rfl, rfl⟩

set_option maxRecDepth 100000 in
set_option maxHeartbeats 4000000 in
theorem c_B_numbered_y {l : Launch} {D : va_G} {cI cC cZ cV : ClassId} {N : Nat} {q : Nat → Nat} {f : zF} (hN : 23 ≤ N) {n ins jt : Nat} (h0 : f 0 = zbo q n ins jt) {md : Nat → Option Nat} (h8 : f 8 = .inl (cV, 122, .inr (.inr (.inr (.inr md))))) {v jv : Nat} (hv : v < n) (hn : n ≤ 122) (hm : md v = some (q jv)) : zC l y_B_numbered b_B_numbered 2 (some (.object "BranchingText$Version")) (rmD 0 0 0) D (zty cI cC cZ cV) [.ref (q 0), .int (nI v)] N q f (pR N q f (.ref (q jv))) := by
  refine zC.of (by decide) (by simp [Value.category]) (Nat.le_of_ble_eq_true rfl) (fun G X Y => ?_)
  show G 0 0 0 [some (.ref (q 0)), some (.int (nI v))] [] N q f
  refine zr_iload_n X d_B_numbered_0 rfl ?_
  refine zr_if_ltf (tgt := 21) X d_B_numbered_1 rfl (nI_pos (by omega)) ?_
  refine zr_iload_n X d_B_numbered_4 rfl ?_
  refine zr_aload_n X d_B_numbered_5 rfl ?_
  refine zr_get X F_B_44 d_B_numbered_6 (by omega) h0 (v := .int (nI n)) rfl ?_
  refine zr_icmp_gef (tgt := 21) X d_B_numbered_9 rfl (nI_ge hv (by omega)) ?_
  refine zr_aload_n X d_B_numbered_12 rfl ?_
  refine zr_get X F_B_30 d_B_numbered_13 (by omega) h0 (v := .ref (q 8)) rfl ?_
  refine zr_iload_n X d_B_numbered_16 rfl ?_
  refine zr_aaload (v := some ((q jv))) X 3 d_B_numbered_17 (by omega) h8 rfl (by omega) (by decide) hm ?_
  show G 0 0 18 [some (.ref (q 0)), some (.int (nI v))] [.ref (q jv)] N q f
  refine zr_goto (tgt := 22) X d_B_numbered_18 rfl ?_
  refine zr_areturn Y d_B_numbered_22 (Or.inl ⟨_, rfl⟩) (Or.inr ⟨_, rfl⟩) (Nat.le_of_ble_eq_true rfl) (Nat.le_of_ble_eq_true rfl) ?_
  exact ⟨rfl, rfl, rfl, rfl⟩

set_option maxRecDepth 100000 in
set_option maxHeartbeats 4000000 in
theorem c_B_numbered_n {l : Launch} {D : va_G} {cI cC cZ cV : ClassId} {N : Nat} {q : Nat → Nat} {f : zF} (hN : 23 ≤ N) {n ins jt : Nat} (h0 : f 0 = zbo q n ins jt) {x : Int32} (hx : zNa x n) : zC l y_B_numbered b_B_numbered 2 (some (.object "BranchingText$Version")) (rmD 0 0 0) D (zty cI cC cZ cV) [.ref (q 0), .int x] N q f (pR N q f .null) := by
  refine zC.of (by decide) (by simp [Value.category]) (Nat.le_of_ble_eq_true rfl) (fun G X Y => ?_)
  show G 0 0 0 [some (.ref (q 0)), some (.int x)] [] N q f
  refine zr_iload_n X d_B_numbered_0 rfl ?_
  refine zr_if_lt (tgt := 21) X d_B_numbered_1 rfl (fun h1 => ?_) (fun h1 => ?_)
  · skip
    refine zr_null X d_B_numbered_21 ?_
    refine zr_areturn Y d_B_numbered_22 (Or.inl ⟨_, rfl⟩) (Or.inl rfl) (Nat.le_of_ble_eq_true rfl) (Nat.le_of_ble_eq_true rfl) ?_
    exact ⟨rfl, rfl, rfl, rfl⟩
  · skip
    refine zr_iload_n X d_B_numbered_4 rfl ?_
    refine zr_aload_n X d_B_numbered_5 rfl ?_
    refine zr_get X F_B_44 d_B_numbered_6 (by omega) h0 (v := .int (nI n)) rfl ?_
    refine zr_icmp_get (tgt := 21) X d_B_numbered_9 rfl (hx.resolve_left h1) ?_
    refine zr_null X d_B_numbered_21 ?_
    refine zr_areturn Y d_B_numbered_22 (Or.inl ⟨_, rfl⟩) (Or.inl rfl) (Nat.le_of_ble_eq_true rfl) (Nat.le_of_ble_eq_true rfl) ?_
    exact ⟨rfl, rfl, rfl, rfl⟩

set_option maxRecDepth 100000 in
set_option maxHeartbeats 4000000 in
theorem c_B_children_y {l : Launch} {D : va_G} {cI cC cZ cV : ClassId} {N : Nat} {q : Nat → Nat} {f : zF} (hN : 23 ≤ N) {n ins jt : Nat} (h0 : f 0 = zbo q n ins jt) {md : Nat → Option Nat} (h8 : f 8 = .inl (cV, 122, .inr (.inr (.inr (.inr md))))) {jv num at_ jp cc : Nat} {com : Int32} {pr lat : Value} (hjv : jv < N) (hv : f jv = zver q num pr com at_ jp cc lat) {v : Nat} (hvn : v < n) (hn : n ≤ 122) (hm : md v = some (q jv)) : zC l y_B_children b_B_children 3 (some .int) (rmD 1 0 0) D (zty cI cC cZ cV) [.ref (q 0), .int (nI v)] N q f (pRd N q f (nI cc)) := by
  refine zC.of (by decide) (by simp [Value.category]) (Nat.le_of_ble_eq_true rfl) (fun G X Y => ?_)
  show G 0 0 0 [some (.ref (q 0)), some (.int (nI v)), none] [] N q f
  refine zr_aload_n X d_B_children_0 rfl ?_
  refine zr_iload_n X d_B_children_1 rfl ?_
  refine zr_callV X K_B_100 KI_B_100 KS_B_100 (c_B_numbered_y hN h0 h8 hvn hn hm) d_B_children_2 (by omega) h0 rfl rfl (by decide) (Nat.le_of_ble_eq_true rfl) (by decide) (st := []) rfl (kR ?_)
  show G 0 0 5 [some (.ref (q 0)), some (.int (nI v)), none] [.ref (q jv)] N q f
  refine zr_astore_n (lv' := [some (.ref (q 0)), some (.int (nI v)), some (.ref (q jv))]) X d_B_children_5 (by decide) rfl ?_
  refine zr_aload_n X d_B_children_6 rfl ?_
  refine zr_ifnonnull (tgt := 14) X d_B_children_7 rfl ?_
  refine zr_aload_n X d_B_children_14 rfl ?_
  refine zr_get X F_B_107 d_B_children_15 (by omega) hv (v := .int (nI cc)) rfl ?_
  refine zr_ireturn Y d_B_children_18 rfl (Nat.le_of_ble_eq_true rfl) (Nat.le_of_ble_eq_true rfl) ?_
  exact ⟨rfl, rfl, rfl, rfl⟩

set_option maxRecDepth 100000 in
set_option maxHeartbeats 4000000 in
theorem c_B_children_n {l : Launch} {D : va_G} {cI cC cZ cV : ClassId} {N : Nat} {q : Nat → Nat} {f : zF} (hN : 23 ≤ N) {n ins jt : Nat} (h0 : f 0 = zbo q n ins jt) {x : Int32} (hx : zNa x n) : zC l y_B_children b_B_children 3 (some .int) (rmD 1 0 0) D (zty cI cC cZ cV) [.ref (q 0), .int x] N q f (pRd N q f (-1)) := by
  refine zC.of (by decide) (by simp [Value.category]) (Nat.le_of_ble_eq_true rfl) (fun G X Y => ?_)
  show G 0 0 0 [some (.ref (q 0)), some (.int x), none] [] N q f
  refine zr_aload_n X d_B_children_0 rfl ?_
  refine zr_iload_n X d_B_children_1 rfl ?_
  refine zr_callV X K_B_100 KI_B_100 KS_B_100 (c_B_numbered_n hN h0 hx) d_B_children_2 (by omega) h0 rfl rfl (by decide) (Nat.le_of_ble_eq_true rfl) (by decide) (st := []) rfl (kR ?_)
  show G 0 0 5 [some (.ref (q 0)), some (.int x), none] [.null] N q f
  refine zr_astore_nN (lv' := [some (.ref (q 0)), some (.int x), some (.null)]) X d_B_children_5 (by decide) rfl ?_
  refine zr_aload_nN X d_B_children_6 rfl ?_
  refine zr_ifnonnullN X d_B_children_7 ?_
  refine zr_iconst (v := (-1)) X d_B_children_10 (by decide) ?_
  refine zr_goto (tgt := 18) X d_B_children_11 rfl ?_
  refine zr_ireturn Y d_B_children_18 rfl (Nat.le_of_ble_eq_true rfl) (Nat.le_of_ble_eq_true rfl) ?_
  exact ⟨rfl, rfl, rfl, rfl⟩

set_option maxRecDepth 100000 in
set_option maxHeartbeats 4000000 in
theorem c_B_parent_n {l : Launch} {D : va_G} {cI cC cZ cV : ClassId} {N : Nat} {q : Nat → Nat} {f : zF} (hN : 23 ≤ N) {n ins jt : Nat} (h0 : f 0 = zbo q n ins jt) {x : Int32} (hx : zNa x n) : zC l y_B_parent b_B_parent 3 (some .int) (rmD 1 0 0) D (zty cI cC cZ cV) [.ref (q 0), .int x] N q f (pRd N q f (-1)) := by
  refine zC.of (by decide) (by simp [Value.category]) (Nat.le_of_ble_eq_true rfl) (fun G X Y => ?_)
  show G 0 0 0 [some (.ref (q 0)), some (.int x), none] [] N q f
  refine zr_aload_n X d_B_parent_0 rfl ?_
  refine zr_iload_n X d_B_parent_1 rfl ?_
  refine zr_callV X K_B_100 KI_B_100 KS_B_100 (c_B_numbered_n hN h0 hx) d_B_parent_2 (by omega) h0 rfl rfl (by decide) (Nat.le_of_ble_eq_true rfl) (by decide) (st := []) rfl (kR ?_)
  show G 0 0 5 [some (.ref (q 0)), some (.int x), none] [.null] N q f
  refine zr_astore_nN (lv' := [some (.ref (q 0)), some (.int x), some (.null)]) X d_B_parent_5 (by decide) rfl ?_
  refine zr_aload_nN X d_B_parent_6 rfl ?_
  refine zr_ifnullN (tgt := 17) X d_B_parent_7 rfl ?_
  refine zr_iconst (v := (-1)) X d_B_parent_17 (by decide) ?_
  refine zr_ireturn Y d_B_parent_18 rfl (Nat.le_of_ble_eq_true rfl) (Nat.le_of_ble_eq_true rfl) ?_
  exact ⟨rfl, rfl, rfl, rfl⟩

set_option maxRecDepth 100000 in
set_option maxHeartbeats 4000000 in
theorem c_B_parent_0 {l : Launch} {D : va_G} {cI cC cZ cV : ClassId} {N : Nat} {q : Nat → Nat} {f : zF} (hN : 23 ≤ N) {n ins jt : Nat} (h0 : f 0 = zbo q n ins jt) {md : Nat → Option Nat} (h8 : f 8 = .inl (cV, 122, .inr (.inr (.inr (.inr md))))) {jv num at_ jp cc : Nat} {com : Int32} {lat : Value} (hjv : jv < N) (hv : f jv = zver q num .null com at_ jp cc lat) {v : Nat} (hvn : v < n) (hn : n ≤ 122) (hm : md v = some (q jv)) : zC l y_B_parent b_B_parent 3 (some .int) (rmD 1 0 0) D (zty cI cC cZ cV) [.ref (q 0), .int (nI v)] N q f (pRd N q f (-1)) := by
  refine zC.of (by decide) (by simp [Value.category]) (Nat.le_of_ble_eq_true rfl) (fun G X Y => ?_)
  show G 0 0 0 [some (.ref (q 0)), some (.int (nI v)), none] [] N q f
  refine zr_aload_n X d_B_parent_0 rfl ?_
  refine zr_iload_n X d_B_parent_1 rfl ?_
  refine zr_callV X K_B_100 KI_B_100 KS_B_100 (c_B_numbered_y hN h0 h8 hvn hn hm) d_B_parent_2 (by omega) h0 rfl rfl (by decide) (Nat.le_of_ble_eq_true rfl) (by decide) (st := []) rfl (kR ?_)
  show G 0 0 5 [some (.ref (q 0)), some (.int (nI v)), none] [.ref (q jv)] N q f
  refine zr_astore_n (lv' := [some (.ref (q 0)), some (.int (nI v)), some (.ref (q jv))]) X d_B_parent_5 (by decide) rfl ?_
  refine zr_aload_n X d_B_parent_6 rfl ?_
  refine zr_ifnull X d_B_parent_7 ?_
  refine zr_aload_n X d_B_parent_10 rfl ?_
  refine zr_get X F_B_84 d_B_parent_11 (by omega) hv (v := .null) rfl ?_
  refine zr_ifnonnullN X d_B_parent_14 ?_
  refine zr_iconst (v := (-1)) X d_B_parent_17 (by decide) ?_
  refine zr_ireturn Y d_B_parent_18 rfl (Nat.le_of_ble_eq_true rfl) (Nat.le_of_ble_eq_true rfl) ?_
  exact ⟨rfl, rfl, rfl, rfl⟩

set_option maxRecDepth 100000 in
set_option maxHeartbeats 4000000 in
theorem c_B_parent_y {l : Launch} {D : va_G} {cI cC cZ cV : ClassId} {N : Nat} {q : Nat → Nat} {f : zF} (hN : 23 ≤ N) {n ins jt : Nat} (h0 : f 0 = zbo q n ins jt) {md : Nat → Option Nat} (h8 : f 8 = .inl (cV, 122, .inr (.inr (.inr (.inr md))))) {jv num at_ jp cc : Nat} {com : Int32} {lat : Value} {ju : Nat} (hjv : jv < N) (hv : f jv = zver q num (.ref (q ju)) com at_ jp cc lat) {num1 at1 jp1 cc1 : Nat} {com1 : Int32} {pr1 lat1 : Value} (hju : ju < N) (hu : f ju = zver q num1 pr1 com1 at1 jp1 cc1 lat1) {v : Nat} (hvn : v < n) (hn : n ≤ 122) (hm : md v = some (q jv)) : zC l y_B_parent b_B_parent 3 (some .int) (rmD 1 0 0) D (zty cI cC cZ cV) [.ref (q 0), .int (nI v)] N q f (pRd N q f (nI num1)) := by
  refine zC.of (by decide) (by simp [Value.category]) (Nat.le_of_ble_eq_true rfl) (fun G X Y => ?_)
  show G 0 0 0 [some (.ref (q 0)), some (.int (nI v)), none] [] N q f
  refine zr_aload_n X d_B_parent_0 rfl ?_
  refine zr_iload_n X d_B_parent_1 rfl ?_
  refine zr_callV X K_B_100 KI_B_100 KS_B_100 (c_B_numbered_y hN h0 h8 hvn hn hm) d_B_parent_2 (by omega) h0 rfl rfl (by decide) (Nat.le_of_ble_eq_true rfl) (by decide) (st := []) rfl (kR ?_)
  show G 0 0 5 [some (.ref (q 0)), some (.int (nI v)), none] [.ref (q jv)] N q f
  refine zr_astore_n (lv' := [some (.ref (q 0)), some (.int (nI v)), some (.ref (q jv))]) X d_B_parent_5 (by decide) rfl ?_
  refine zr_aload_n X d_B_parent_6 rfl ?_
  refine zr_ifnull X d_B_parent_7 ?_
  refine zr_aload_n X d_B_parent_10 rfl ?_
  refine zr_get X F_B_84 d_B_parent_11 (by omega) hv (v := .ref (q ju)) rfl ?_
  refine zr_ifnonnull (tgt := 19) X d_B_parent_14 rfl ?_
  refine zr_aload_n X d_B_parent_19 rfl ?_
  refine zr_get X F_B_84 d_B_parent_20 (by omega) hv (v := .ref (q ju)) rfl ?_
  refine zr_get X F_B_91 d_B_parent_23 (by omega) hu (v := .int (nI num1)) rfl ?_
  refine zr_ireturn Y d_B_parent_26 rfl (Nat.le_of_ble_eq_true rfl) (Nat.le_of_ble_eq_true rfl) ?_
  exact ⟨rfl, rfl, rfl, rfl⟩
