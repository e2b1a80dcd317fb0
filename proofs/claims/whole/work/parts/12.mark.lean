/-- the first i of a, the rest of b -/
def zst (i : Nat) (a b : Nat → Int32) : Nat → Int32 := fun m => if m < i then a m else b m
theorem zst_0 {a b : Nat → Int32} : zst 0 a b = b := by
  funext m
  simp [zst]
theorem zst_at {i : Nat} {a b : Nat → Int32} : zst i a b i = b i := by simp [zst]
theorem zst_up {i : Nat} {a b : Nat → Int32} {v : Int32} (h : a i = v) : upd (zst i a b) i v = zst (i + 1) a b := by
  funext m
  unfold upd zst
  by_cases h1 : m = i
  · subst h1
    rw [if_pos rfl, if_pos (Nat.lt_succ_self _), h]
  · rw [if_neg h1]
    by_cases h2 : m < i
    · rw [if_pos h2, if_pos (by omega)]
    · rw [if_neg h2, if_neg (by omega)]
theorem zst_no {i : Nat} {a b : Nat → Int32} (h : a i = b i) : zst (i + 1) a b = zst i a b := by
  funext m
  unfold zst
  by_cases h1 : m = i
  · subst h1
    rw [if_pos (Nat.lt_succ_self _), if_neg (Nat.lt_irrefl _), h]
  · by_cases h2 : m < i
    · rw [if_pos h2, if_pos (by omega)]
    · rw [if_neg h2, if_neg (by omega)]
theorem up_self {α : Type} {f : Nat → α} {k : Nat} {e : α} (h : f k = e) : va_up f k e = f := by
  funext j
  unfold va_up
  split
  · next h1 => rw [h1, h]
  · rfl
/-- a mark at x when C characters come in at P, when C go from P on -/
def zcm (P C x r : Int32) : Int32 := if P < x ∨ (x = P ∧ ¬ r = 0) then x + C else x
def zgm (P C x : Int32) : Int32 := if ¬ x < P + C then x - C else if ¬ x ≤ P then P else x

set_option maxRecDepth 100000 in
set_option maxHeartbeats 4000000 in
theorem c_M_coming {l : Launch} {D : va_G} {cI cC cZ cV : ClassId} {N : Nat} {q : Nat → Nat} {f : zF} {j jp jr : Nat} {mp mr : Nat → Int32} {P C : Int32} (hj : j < N) (hf : f j = .inr (iM, [.ref (q jp), .ref (q jr)])) (hjp : jp < N) (hfp : f jp = .inl (cI, 6, .inl mp)) (hjr : jr < N) (hfr : f jr = .inl (cZ, 6, .inl mr)) (n1 : j ≠ jp) (n2 : jr ≠ jp) : zC l y_M_moveForComing b_M_moveForComing 4 none (rmD 0 0 0) D (zty cI cC cZ cV) [.ref (q j), .int P, .int C] N q f (pW N q (va_up f jp (.inl (cI, 6, .inl (zst 6 (fun m => zcm P C (mp m) (mr m)) mp))))) := by
  refine zC.of (by decide) (by simp [Value.category]) (Nat.le_of_ble_eq_true rfl) (fun G X Y => ?_)
  show G 0 0 0 [some (.ref (q j)), some (.int P), some (.int C), none] [] N q f
  have loop : ∀ (d i : Nat), i + d = 6 → G 0 0 2 [some (.ref (q j)), some (.int P), some (.int C), some (.int (nI i))] [] N q (va_up f jp (.inl (cI, 6, .inl (zst i (fun m => zcm P C (mp m) (mr m)) mp)))) := by
    intro d
    induction d with
    | zero =>
      intro i hi
      show G 0 0 2 [some (.ref (q j)), some (.int P), some (.int C), some (.int (nI i))] [] N q (va_up f jp (.inl (cI, 6, .inl (zst i (fun m => zcm P C (mp m) (mr m)) mp))))
      refine zr_iload_n X d_M_moveForComing_2 rfl ?_
      refine zr_bipush (v := nI 6) X d_M_moveForComing_3 (by decide) ?_
      refine zr_icmp_get (tgt := 53) X d_M_moveForComing_5 rfl (nI_le (by omega) (by omega)) ?_
      refine zr_return Y d_M_moveForComing_53 (Nat.le_of_ble_eq_true rfl) (Nat.le_of_ble_eq_true rfl) ?_
      exact ⟨rfl, rfl, rfl, by rw [show i = 6 by omega]⟩
    | succ d ih =>
      intro i hi
      show G 0 0 2 [some (.ref (q j)), some (.int P), some (.int C), some (.int (nI i))] [] N q (va_up f jp (.inl (cI, 6, .inl (zst i (fun m => zcm P C (mp m) (mr m)) mp))))
      refine zr_iload_n X d_M_moveForComing_2 rfl ?_
      refine zr_bipush (v := nI 6) X d_M_moveForComing_3 (by decide) ?_
      refine zr_icmp_gef (tgt := 53) X d_M_moveForComing_5 rfl (nI_ge (by omega) (by decide)) ?_
      refine zr_aload_n X d_M_moveForComing_8 rfl ?_
      refine zr_get X F_M_9 d_M_moveForComing_9 (by omega) (up_ne n1 hf) (v := .ref (q jp)) rfl ?_
      refine zr_iload_n X d_M_moveForComing_12 rfl ?_
      refine zr_iaload (v := mp i) X 0 d_M_moveForComing_13 (by omega) up_eq rfl (by omega) (by decide) zst_at ?_
      refine zr_iload_n X d_M_moveForComing_14 rfl ?_
      refine zr_icmp_gt (tgt := 37) X d_M_moveForComing_15 rfl (fun h15 => ?_) (fun h15 => ?_)
      · skip
        refine zr_aload_n X d_M_moveForComing_37 rfl ?_
        refine zr_get X F_M_9 d_M_moveForComing_38 (by omega) (up_ne n1 hf) (v := .ref (q jp)) rfl ?_
        refine zr_iload_n X d_M_moveForComing_41 rfl ?_
        refine zr_dup2 X d_M_moveForComing_42 rfl rfl ?_
        refine zr_iaload (v := mp i) X 0 d_M_moveForComing_43 (by omega) up_eq rfl (by omega) (by decide) zst_at ?_
        refine zr_iload_n X d_M_moveForComing_44 rfl ?_
        refine zr_iadd (z := (mp i) + C) X d_M_moveForComing_45 rfl ?_
        refine zr_iastore X 0 d_M_moveForComing_46 (by omega) up_eq rfl (by omega) (by decide) ?_
        refine zr_iinc (v := nI (i + 1)) (lv' := [some (.ref (q j)), some (.int P), some (.int C), some (.int (nI (i + 1)))]) X d_M_moveForComing_47 rfl (nI_1 _) (by decide) rfl ?_
        refine zr_goto (tgt := 2) X d_M_moveForComing_50 rfl ?_
        have h9 := ih (i + 1) (by omega)
        rw [← zst_up (v := mp i + C) (if_pos (Or.inl h15))] at h9
        rw [bx_uu]
        exact h9
      · skip
        refine zr_aload_n X d_M_moveForComing_18 rfl ?_
        refine zr_get X F_M_9 d_M_moveForComing_19 (by omega) (up_ne n1 hf) (v := .ref (q jp)) rfl ?_
        refine zr_iload_n X d_M_moveForComing_22 rfl ?_
        refine zr_iaload (v := mp i) X 0 d_M_moveForComing_23 (by omega) up_eq rfl (by omega) (by decide) zst_at ?_
        refine zr_iload_n X d_M_moveForComing_24 rfl ?_
        refine zr_icmp_ne (tgt := 47) X d_M_moveForComing_25 rfl (fun h25 => ?_) (fun h25 => ?_)
        · skip
          refine zr_iinc (v := nI (i + 1)) (lv' := [some (.ref (q j)), some (.int P), some (.int C), some (.int (nI (i + 1)))]) X d_M_moveForComing_47 rfl (nI_1 _) (by decide) rfl ?_
          refine zr_goto (tgt := 2) X d_M_moveForComing_50 rfl ?_
          have h9 := ih (i + 1) (by omega)
          rw [zst_no (if_neg (fun h9 => h9.elim h15 (fun h8 => h25 h8.1)))] at h9
          exact h9
        · skip
          refine zr_aload_n X d_M_moveForComing_28 rfl ?_
          refine zr_get X F_M_15 d_M_moveForComing_29 (by omega) (up_ne n1 hf) (v := .ref (q jr)) rfl ?_
          refine zr_iload_n X d_M_moveForComing_32 rfl ?_
          refine zr_baload (v := mr i) X 2 d_M_moveForComing_33 (by omega) (up_ne n2 hfr) rfl (by omega) (by decide) rfl ?_
          refine zr_if_eq (tgt := 47) X d_M_moveForComing_34 rfl (fun h34 => ?_) (fun h34 => ?_)
          · skip
            refine zr_iinc (v := nI (i + 1)) (lv' := [some (.ref (q j)), some (.int P), some (.int C), some (.int (nI (i + 1)))]) X d_M_moveForComing_47 rfl (nI_1 _) (by decide) rfl ?_
            refine zr_goto (tgt := 2) X d_M_moveForComing_50 rfl ?_
            have h9 := ih (i + 1) (by omega)
            rw [zst_no (if_neg (fun h9 => h9.elim h15 (fun h8 => h8.2 h34)))] at h9
            exact h9
          · skip
            refine zr_aload_n X d_M_moveForComing_37 rfl ?_
            refine zr_get X F_M_9 d_M_moveForComing_38 (by omega) (up_ne n1 hf) (v := .ref (q jp)) rfl ?_
            refine zr_iload_n X d_M_moveForComing_41 rfl ?_
            refine zr_dup2 X d_M_moveForComing_42 rfl rfl ?_
            refine zr_iaload (v := mp i) X 0 d_M_moveForComing_43 (by omega) up_eq rfl (by omega) (by decide) zst_at ?_
            refine zr_iload_n X d_M_moveForComing_44 rfl ?_
            refine zr_iadd (z := (mp i) + C) X d_M_moveForComing_45 rfl ?_
            refine zr_iastore X 0 d_M_moveForComing_46 (by omega) up_eq rfl (by omega) (by decide) ?_
            refine zr_iinc (v := nI (i + 1)) (lv' := [some (.ref (q j)), some (.int P), some (.int C), some (.int (nI (i + 1)))]) X d_M_moveForComing_47 rfl (nI_1 _) (by decide) rfl ?_
            refine zr_goto (tgt := 2) X d_M_moveForComing_50 rfl ?_
            have h9 := ih (i + 1) (by omega)
            rw [← zst_up (v := mp i + C) (if_pos (Or.inr ⟨h25, h34⟩))] at h9
            rw [bx_uu]
            exact h9
  refine zr_iconst (v := nI 0) X d_M_moveForComing_0 (by decide) ?_
  refine zr_istore_n (lv' := [some (.ref (q j)), some (.int P), some (.int C), some (.int (nI 0))]) X d_M_moveForComing_1 (by decide) rfl ?_
  have h0 := loop 6 0 (by omega)
  rw [zst_0, up_self hfp] at h0
  exact h0

set_option maxRecDepth 100000 in
set_option maxHeartbeats 4000000 in
theorem c_M_going {l : Launch} {D : va_G} {cI cC cZ cV : ClassId} {N : Nat} {q : Nat → Nat} {f : zF} {j jp jr : Nat} {mp mr : Nat → Int32} {P C : Int32} (hj : j < N) (hf : f j = .inr (iM, [.ref (q jp), .ref (q jr)])) (hjp : jp < N) (hfp : f jp = .inl (cI, 6, .inl mp)) (hjr : jr < N) (hfr : f jr = .inl (cZ, 6, .inl mr)) (n1 : j ≠ jp) (n2 : jr ≠ jp) : zC l y_M_moveForGoing b_M_moveForGoing 4 none (rmD 0 0 0) D (zty cI cC cZ cV) [.ref (q j), .int P, .int C] N q f (pW N q (va_up f jp (.inl (cI, 6, .inl (zst 6 (fun m => zgm P C (mp m)) mp))))) := by
  refine zC.of (by decide) (by simp [Value.category]) (Nat.le_of_ble_eq_true rfl) (fun G X Y => ?_)
  show G 0 0 0 [some (.ref (q j)), some (.int P), some (.int C), none] [] N q f
  have loop : ∀ (d i : Nat), i + d = 6 → G 0 0 2 [some (.ref (q j)), some (.int P), some (.int C), some (.int (nI i))] [] N q (va_up f jp (.inl (cI, 6, .inl (zst i (fun m => zgm P C (mp m)) mp)))) := by
    intro d
    induction d with
    | zero =>
      intro i hi
      show G 0 0 2 [some (.ref (q j)), some (.int P), some (.int C), some (.int (nI i))] [] N q (va_up f jp (.inl (cI, 6, .inl (zst i (fun m => zgm P C (mp m)) mp))))
      refine zr_iload_n X d_M_moveForGoing_2 rfl ?_
      refine zr_bipush (v := nI 6) X d_M_moveForGoing_3 (by decide) ?_
      refine zr_icmp_get (tgt := 56) X d_M_moveForGoing_5 rfl (nI_le (by omega) (by omega)) ?_
      refine zr_return Y d_M_moveForGoing_56 (Nat.le_of_ble_eq_true rfl) (Nat.le_of_ble_eq_true rfl) ?_
      exact ⟨rfl, rfl, rfl, by rw [show i = 6 by omega]⟩
    | succ d ih =>
      intro i hi
      show G 0 0 2 [some (.ref (q j)), some (.int P), some (.int C), some (.int (nI i))] [] N q (va_up f jp (.inl (cI, 6, .inl (zst i (fun m => zgm P C (mp m)) mp))))
      refine zr_iload_n X d_M_moveForGoing_2 rfl ?_
      refine zr_bipush (v := nI 6) X d_M_moveForGoing_3 (by decide) ?_
      refine zr_icmp_gef (tgt := 56) X d_M_moveForGoing_5 rfl (nI_ge (by omega) (by decide)) ?_
      refine zr_aload_n X d_M_moveForGoing_8 rfl ?_
      refine zr_get X F_M_9 d_M_moveForGoing_9 (by omega) (up_ne n1 hf) (v := .ref (q jp)) rfl ?_
      refine zr_iload_n X d_M_moveForGoing_12 rfl ?_
      refine zr_iaload (v := mp i) X 0 d_M_moveForGoing_13 (by omega) up_eq rfl (by omega) (by decide) zst_at ?_
      refine zr_iload_n X d_M_moveForGoing_14 rfl ?_
      refine zr_iload_n X d_M_moveForGoing_15 rfl ?_
      refine zr_iadd (z := P + C) X d_M_moveForGoing_16 rfl ?_
      refine zr_icmp_lt (tgt := 33) X d_M_moveForGoing_17 rfl (fun h17 => ?_) (fun h17 => ?_)
      · skip
        refine zr_aload_n X d_M_moveForGoing_33 rfl ?_
        refine zr_get X F_M_9 d_M_moveForGoing_34 (by omega) (up_ne n1 hf) (v := .ref (q jp)) rfl ?_
        refine zr_iload_n X d_M_moveForGoing_37 rfl ?_
        refine zr_iaload (v := mp i) X 0 d_M_moveForGoing_38 (by omega) up_eq rfl (by omega) (by decide) zst_at ?_
        refine zr_iload_n X d_M_moveForGoing_39 rfl ?_
        refine zr_icmp_le (tgt := 50) X d_M_moveForGoing_40 rfl (fun h40 => ?_) (fun h40 => ?_)
        · skip
          refine zr_iinc (v := nI (i + 1)) (lv' := [some (.ref (q j)), some (.int P), some (.int C), some (.int (nI (i + 1)))]) X d_M_moveForGoing_50 rfl (nI_1 _) (by decide) rfl ?_
          refine zr_goto (tgt := 2) X d_M_moveForGoing_53 rfl ?_
          have h9 := ih (i + 1) (by omega)
          rw [zst_no ((if_neg (fun h9 => h9 h17)).trans (if_neg (fun h9 => h9 h40)))] at h9
          exact h9
        · skip
          refine zr_aload_n X d_M_moveForGoing_43 rfl ?_
          refine zr_get X F_M_9 d_M_moveForGoing_44 (by omega) (up_ne n1 hf) (v := .ref (q jp)) rfl ?_
          refine zr_iload_n X d_M_moveForGoing_47 rfl ?_
          refine zr_iload_n X d_M_moveForGoing_48 rfl ?_
          refine zr_iastore X 0 d_M_moveForGoing_49 (by omega) up_eq rfl (by omega) (by decide) ?_
          refine zr_iinc (v := nI (i + 1)) (lv' := [some (.ref (q j)), some (.int P), some (.int C), some (.int (nI (i + 1)))]) X d_M_moveForGoing_50 rfl (nI_1 _) (by decide) rfl ?_
          refine zr_goto (tgt := 2) X d_M_moveForGoing_53 rfl ?_
          have h9 := ih (i + 1) (by omega)
          rw [← zst_up (v := P) ((if_neg (fun h9 => h9 h17)).trans (if_pos h40))] at h9
          rw [bx_uu]
          exact h9
      · skip
        refine zr_aload_n X d_M_moveForGoing_20 rfl ?_
        refine zr_get X F_M_9 d_M_moveForGoing_21 (by omega) (up_ne n1 hf) (v := .ref (q jp)) rfl ?_
        refine zr_iload_n X d_M_moveForGoing_24 rfl ?_
        refine zr_dup2 X d_M_moveForGoing_25 rfl rfl ?_
        refine zr_iaload (v := mp i) X 0 d_M_moveForGoing_26 (by omega) up_eq rfl (by omega) (by decide) zst_at ?_
        refine zr_iload_n X d_M_moveForGoing_27 rfl ?_
        refine zr_isub (z := (mp i) - C) X d_M_moveForGoing_28 rfl ?_
        refine zr_iastore X 0 d_M_moveForGoing_29 (by omega) up_eq rfl (by omega) (by decide) ?_
        refine zr_goto (tgt := 50) X d_M_moveForGoing_30 rfl ?_
        refine zr_iinc (v := nI (i + 1)) (lv' := [some (.ref (q j)), some (.int P), some (.int C), some (.int (nI (i + 1)))]) X d_M_moveForGoing_50 rfl (nI_1 _) (by decide) rfl ?_
        refine zr_goto (tgt := 2) X d_M_moveForGoing_53 rfl ?_
        have h9 := ih (i + 1) (by omega)
        rw [← zst_up (v := mp i - C) (if_pos h17)] at h9
        rw [bx_uu]
        exact h9
  refine zr_iconst (v := nI 0) X d_M_moveForGoing_0 (by decide) ?_
  refine zr_istore_n (lv' := [some (.ref (q j)), some (.int P), some (.int C), some (.int (nI 0))]) X d_M_moveForGoing_1 (by decide) rfl ?_
  have h0 := loop 6 0 (by omega)
  rw [zst_0, up_self hfp] at h0
  exact h0

/-- of the first m marks the one that the class's loop has found: at x or beyond, least place, least number -/
def zff (mp : Nat → Int32) (x : Int32) : Nat → Option Nat
  | 0 => none
  | m + 1 => match zff mp x m with
    | none => if mp m < x then none else some m
    | some b => if mp m < x then some b else if mp b ≤ mp m then some b else some m
def zfi : Option Nat → Int32
  | none => -1
  | some b => nI b

set_option maxRecDepth 100000 in
set_option maxHeartbeats 4000000 in
theorem c_M_firstFrom {l : Launch} {D : va_G} {cI cC cZ cV : ClassId} {N : Nat} {q : Nat → Nat} {f : zF} {j jp jr : Nat} {mp : Nat → Int32} {x : Int32} (hj : j < N) (hf : f j = .inr (iM, [.ref (q jp), .ref (q jr)])) (hjp : jp < N) (hfp : f jp = .inl (cI, 6, .inl mp)) : zC l y_M_firstFrom b_M_firstFrom 4 (some .int) (rmD 0 0 0) D (zty cI cC cZ cV) [.ref (q j), .int x] N q f (pRd N q f (zfi (zff mp x 6))) := by
  refine zC.of (by decide) (by simp [Value.category]) (Nat.le_of_ble_eq_true rfl) (fun G X Y => ?_)
  show G 0 0 0 [some (.ref (q j)), some (.int x), none, none] [] N q f
  have loop : ∀ (d i : Nat) (o : Option Nat), i + d = 6 → o = zff mp x i → (∀ b, o = some b → b < i) → G 0 0 4 [some (.ref (q j)), some (.int x), some (.int (zfi o)), some (.int (nI i))] [] N q f := by
    intro d
    induction d with
    | zero =>
      intro i o hi ho hb
      show G 0 0 4 [some (.ref (q j)), some (.int x), some (.int (zfi o)), some (.int (nI i))] [] N q f
      refine zr_iload_n X d_M_firstFrom_4 rfl ?_
      refine zr_bipush (v := nI 6) X d_M_firstFrom_5 (by decide) ?_
      refine zr_icmp_get (tgt := 48) X d_M_firstFrom_7 rfl (nI_le (by omega) (by omega)) ?_
      refine zr_iload_n X d_M_firstFrom_48 rfl ?_
      refine zr_ireturn Y d_M_firstFrom_49 rfl (Nat.le_of_ble_eq_true rfl) (Nat.le_of_ble_eq_true rfl) ?_
      exact ⟨by rw [ho, show i = 6 by omega], rfl, rfl, rfl⟩
    | succ d ih =>
      intro i o hi ho hb
      have hz : zff mp x (i + 1) = match zff mp x i with | none => if mp i < x then none else some i | some b => if mp i < x then some b else if mp b ≤ mp i then some b else some i := rfl
      rw [← ho] at hz
      show G 0 0 4 [some (.ref (q j)), some (.int x), some (.int (zfi o)), some (.int (nI i))] [] N q f
      refine zr_iload_n X d_M_firstFrom_4 rfl ?_
      refine zr_bipush (v := nI 6) X d_M_firstFrom_5 (by decide) ?_
      refine zr_icmp_gef (tgt := 48) X d_M_firstFrom_7 rfl (nI_ge (by omega) (by decide)) ?_
      refine zr_aload_n X d_M_firstFrom_10 rfl ?_
      refine zr_get X F_M_9 d_M_firstFrom_11 (by omega) hf (v := .ref (q jp)) rfl ?_
      refine zr_iload_n X d_M_firstFrom_14 rfl ?_
      refine zr_iaload (v := mp i) X 0 d_M_firstFrom_15 (by omega) hfp rfl (by omega) (by decide) rfl ?_
      refine zr_iload_n X d_M_firstFrom_16 rfl ?_
      refine zr_icmp_lt (tgt := 42) X d_M_firstFrom_17 rfl (fun h17 => ?_) (fun h17 => ?_)
      · skip
        refine zr_iinc (v := nI (i + 1)) (lv' := [some (.ref (q j)), some (.int x), some (.int (zfi o)), some (.int (nI (i + 1)))]) X d_M_firstFrom_42 rfl (nI_1 _) (by decide) rfl ?_
        refine zr_goto (tgt := 4) X d_M_firstFrom_45 rfl ?_
        exact ih (i + 1) o (by omega) (by rw [hz]; cases o <;> simp [h17]) (fun b h => Nat.lt_succ_of_lt (hb b h))
      · skip
        cases o with
        | none =>
          show G 0 0 20 [some (.ref (q j)), some (.int x), some (.int (-1)), some (.int (nI i))] [] N q f
          refine zr_iload_n X d_M_firstFrom_20 rfl ?_
          refine zr_iconst (v := (-1)) X d_M_firstFrom_21 (by decide) ?_
          refine zr_icmp_eqt (tgt := 40) X d_M_firstFrom_22 rfl rfl ?_
          refine zr_iload_n X d_M_firstFrom_40 rfl ?_
          refine zr_istore_n (lv' := [some (.ref (q j)), some (.int x), some (.int (nI i)), some (.int (nI i))]) X d_M_firstFrom_41 (by decide) rfl ?_
          refine zr_iinc (v := nI (i + 1)) (lv' := [some (.ref (q j)), some (.int x), some (.int (nI i)), some (.int (nI (i + 1)))]) X d_M_firstFrom_42 rfl (nI_1 _) (by decide) rfl ?_
          refine zr_goto (tgt := 4) X d_M_firstFrom_45 rfl ?_
          exact ih (i + 1) (some i) (by omega) (by rw [hz]; simp [h17]) (fun b h => by cases h; omega)
        | some b =>
          have hb6 : b < i := hb b rfl
          show G 0 0 20 [some (.ref (q j)), some (.int x), some (.int (nI b)), some (.int (nI i))] [] N q f
          refine zr_iload_n X d_M_firstFrom_20 rfl ?_
          refine zr_iconst (v := (-1)) X d_M_firstFrom_21 (by decide) ?_
          refine zr_icmp_eqf (tgt := 40) X d_M_firstFrom_22 rfl (fun h9 => absurd (h9 ▸ nI_pos' (n := b) (by omega)) (by decide)) ?_
          refine zr_aload_n X d_M_firstFrom_25 rfl ?_
          refine zr_get X F_M_9 d_M_firstFrom_26 (by omega) hf (v := .ref (q jp)) rfl ?_
          refine zr_iload_n X d_M_firstFrom_29 rfl ?_
          refine zr_iaload (v := mp i) X 0 d_M_firstFrom_30 (by omega) hfp rfl (by omega) (by decide) rfl ?_
          refine zr_aload_n X d_M_firstFrom_31 rfl ?_
          refine zr_get X F_M_9 d_M_firstFrom_32 (by omega) hf (v := .ref (q jp)) rfl ?_
          refine zr_iload_n X d_M_firstFrom_35 rfl ?_
          refine zr_iaload (v := mp b) X 0 d_M_firstFrom_36 (by omega) hfp rfl (by omega) (by decide) rfl ?_
          refine zr_icmp_ge (tgt := 42) X d_M_firstFrom_37 rfl (fun h37 => ?_) (fun h37 => ?_)
          · skip
            refine zr_iinc (v := nI (i + 1)) (lv' := [some (.ref (q j)), some (.int x), some (.int (nI b)), some (.int (nI (i + 1)))]) X d_M_firstFrom_42 rfl (nI_1 _) (by decide) rfl ?_
            refine zr_goto (tgt := 4) X d_M_firstFrom_45 rfl ?_
            exact ih (i + 1) (some b) (by omega) (by rw [hz]; simp [h17, h37]) (fun b' h => by cases h; omega)
          · skip
            refine zr_iload_n X d_M_firstFrom_40 rfl ?_
            refine zr_istore_n (lv' := [some (.ref (q j)), some (.int x), some (.int (nI i)), some (.int (nI i))]) X d_M_firstFrom_41 (by decide) rfl ?_
            refine zr_iinc (v := nI (i + 1)) (lv' := [some (.ref (q j)), some (.int x), some (.int (nI i)), some (.int (nI (i + 1)))]) X d_M_firstFrom_42 rfl (nI_1 _) (by decide) rfl ?_
            refine zr_goto (tgt := 4) X d_M_firstFrom_45 rfl ?_
            exact ih (i + 1) (some i) (by omega) (by rw [hz]; simp [h17, h37]) (fun b h => by cases h; omega)
  refine zr_iconst (v := (-1)) X d_M_firstFrom_0 (by decide) ?_
  refine zr_istore_n (lv' := [some (.ref (q j)), some (.int x), some (.int ((-1))), none]) X d_M_firstFrom_1 (by decide) rfl ?_
  refine zr_iconst (v := nI 0) X d_M_firstFrom_2 (by decide) ?_
  refine zr_istore_n (lv' := [some (.ref (q j)), some (.int x), some (.int ((-1))), some (.int (nI 0))]) X d_M_firstFrom_3 (by decide) rfl ?_
  exact loop 6 0 none (by omega) rfl (fun b h => by cases h)
