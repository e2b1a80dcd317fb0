set_option maxRecDepth 100000 in
set_option maxHeartbeats 4000000 in
theorem c_O_at_y {l : Launch} {D : va_G} {cI cC cZ cV : ClassId} {N : Nat} {q : Nat → Nat} {f : zF} (hN : 23 ≤ N) {n po th sz ty : Nat} (h10 : f 10 = zmo q n po th sz ty) {tx : Nat → Int32} (h17 : f 17 = .inl (cC, 2000, .inl tx)) (htx : zCh tx) {i : Nat} (hi : i < sz) (hs : sz ≤ 2000) : zC l y_O_at b_O_at 2 (some .char) (rmD 0 0 0) D (zty cI cC cZ cV) [.ref (q 10), .int (nI i)] N q f (pRd N q f (tx i)) := by
  refine zC.of (by decide) (by simp [Value.category]) (Nat.le_of_ble_eq_true rfl) (fun G X Y => ?_)
  show G 0 0 0 [some (.ref (q 10)), some (.int (nI i))] [] N q f
  refine zr_iload_n X d_O_at_0 rfl ?_
  refine zr_if_ltf (tgt := 21) X d_O_at_1 rfl (nI_pos (by omega)) ?_
  refine zr_iload_n X d_O_at_4 rfl ?_
  refine zr_aload_n X d_O_at_5 rfl ?_
  refine zr_get X F_O_55 d_O_at_6 (by omega) h10 (v := .int (nI sz)) rfl ?_
  refine zr_icmp_gef (tgt := 21) X d_O_at_9 rfl (nI_ge hi (by omega)) ?_
  refine zr_aload_n X d_O_at_12 rfl ?_
  refine zr_get X F_O_34 d_O_at_13 (by omega) h10 (v := .ref (q 17)) rfl ?_
  refine zr_iload_n X d_O_at_16 rfl ?_
  refine zr_caload (v := tx i) X 1 d_O_at_17 (by omega) h17 rfl (by omega) (by decide) rfl ?_
  refine zr_goto (tgt := 22) X d_O_at_18 rfl ?_
  refine zr_ireturn Y d_O_at_22 (z_charR (htx _)) (Nat.le_of_ble_eq_true rfl) (Nat.le_of_ble_eq_true rfl) ?_
  exact ⟨rfl, rfl, rfl, rfl⟩

set_option maxRecDepth 100000 in
set_option maxHeartbeats 4000000 in
theorem c_O_at_n {l : Launch} {D : va_G} {cI cC cZ cV : ClassId} {N : Nat} {q : Nat → Nat} {f : zF} (hN : 23 ≤ N) {n po th sz ty : Nat} (h10 : f 10 = zmo q n po th sz ty) {x : Int32} (hx : zNa x sz) : zC l y_O_at b_O_at 2 (some .char) (rmD 0 0 0) D (zty cI cC cZ cV) [.ref (q 10), .int x] N q f (pRd N q f (nI 0)) := by
  refine zC.of (by decide) (by simp [Value.category]) (Nat.le_of_ble_eq_true rfl) (fun G X Y => ?_)
  show G 0 0 0 [some (.ref (q 10)), some (.int x)] [] N q f
  refine zr_iload_n X d_O_at_0 rfl ?_
  refine zr_if_lt (tgt := 21) X d_O_at_1 rfl (fun h1 => ?_) (fun h1 => ?_)
  · skip
    refine zr_iconst (v := nI 0) X d_O_at_21 (by decide) ?_
    refine zr_ireturn Y d_O_at_22 rfl (Nat.le_of_ble_eq_true rfl) (Nat.le_of_ble_eq_true rfl) ?_
    exact ⟨rfl, rfl, rfl, rfl⟩
  · skip
    refine zr_iload_n X d_O_at_4 rfl ?_
    refine zr_aload_n X d_O_at_5 rfl ?_
    refine zr_get X F_O_55 d_O_at_6 (by omega) h10 (v := .int (nI sz)) rfl ?_
    refine zr_icmp_get (tgt := 21) X d_O_at_9 rfl (hx.resolve_left h1) ?_
    refine zr_iconst (v := nI 0) X d_O_at_21 (by decide) ?_
    refine zr_ireturn Y d_O_at_22 rfl (Nat.le_of_ble_eq_true rfl) (Nat.le_of_ble_eq_true rfl) ?_
    exact ⟨rfl, rfl, rfl, rfl⟩

set_option maxRecDepth 100000 in
set_option maxHeartbeats 4000000 in
theorem c_O_parent_y {l : Launch} {D : va_G} {cI cC cZ cV : ClassId} {N : Nat} {q : Nat → Nat} {f : zF} (hN : 23 ≤ N) {n po th sz ty : Nat} (h10 : f 10 = zmo q n po th sz ty) {pa : Nat → Int32} (h11 : f 11 = .inl (cI, 122, .inl pa)) {v : Nat} (hv : 0 < v) (hn : v < n) (hn2 : n ≤ 122) : zC l y_O_parent b_O_parent 2 (some .int) (rmD 0 0 0) D (zty cI cC cZ cV) [.ref (q 10), .int (nI v)] N q f (pRd N q f (pa v)) := by
  refine zC.of (by decide) (by simp [Value.category]) (Nat.le_of_ble_eq_true rfl) (fun G X Y => ?_)
  show G 0 0 0 [some (.ref (q 10)), some (.int (nI v))] [] N q f
  refine zr_iload_n X d_O_parent_0 rfl ?_
  refine zr_if_lef (tgt := 12) X d_O_parent_1 rfl (nI_nle hv (by omega)) ?_
  refine zr_iload_n X d_O_parent_4 rfl ?_
  refine zr_aload_n X d_O_parent_5 rfl ?_
  refine zr_get X F_O_7 d_O_parent_6 (by omega) h10 (v := .int (nI n)) rfl ?_
  refine zr_icmp_ltt (tgt := 16) X d_O_parent_9 rfl (nI_lt hn (by omega)) ?_
  refine zr_aload_n X d_O_parent_16 rfl ?_
  refine zr_get X F_O_13 d_O_parent_17 (by omega) h10 (v := .ref (q 11)) rfl ?_
  refine zr_iload_n X d_O_parent_20 rfl ?_
  refine zr_iaload (v := pa v) X 0 d_O_parent_21 (by omega) h11 rfl (by omega) (by decide) rfl ?_
  refine zr_ireturn Y d_O_parent_22 rfl (Nat.le_of_ble_eq_true rfl) (Nat.le_of_ble_eq_true rfl) ?_
  exact ⟨rfl, rfl, rfl, rfl⟩

set_option maxRecDepth 100000 in
set_option maxHeartbeats 4000000 in
theorem c_O_parent_0 {l : Launch} {D : va_G} {cI cC cZ cV : ClassId} {N : Nat} {q : Nat → Nat} {f : zF} (hN : 23 ≤ N) {n po th sz ty : Nat} (h10 : f 10 = zmo q n po th sz ty) : zC l y_O_parent b_O_parent 2 (some .int) (rmD 0 0 0) D (zty cI cC cZ cV) [.ref (q 10), .int (nI 0)] N q f (pRd N q f (-1)) := by
  refine zC.of (by decide) (by simp [Value.category]) (Nat.le_of_ble_eq_true rfl) (fun G X Y => ?_)
  show G 0 0 0 [some (.ref (q 10)), some (.int (nI 0))] [] N q f
  refine zr_iload_n X d_O_parent_0 rfl ?_
  refine zr_if_let (tgt := 12) X d_O_parent_1 rfl (by decide) ?_
  refine zr_iconst (v := (-1)) X d_O_parent_12 (by decide) ?_
  refine zr_goto (tgt := 22) X d_O_parent_13 rfl ?_
  refine zr_ireturn Y d_O_parent_22 rfl (Nat.le_of_ble_eq_true rfl) (Nat.le_of_ble_eq_true rfl) ?_
  exact ⟨rfl, rfl, rfl, rfl⟩

set_option maxRecDepth 100000 in
set_option maxHeartbeats 4000000 in
theorem c_O_parent_n {l : Launch} {D : va_G} {cI cC cZ cV : ClassId} {N : Nat} {q : Nat → Nat} {f : zF} (hN : 23 ≤ N) {n po th sz ty : Nat} (h10 : f 10 = zmo q n po th sz ty) {x : Int32} (hx : zNa x n) : zC l y_O_parent b_O_parent 2 (some .int) (rmD 0 0 0) D (zty cI cC cZ cV) [.ref (q 10), .int x] N q f (pRd N q f (-1)) := by
  refine zC.of (by decide) (by simp [Value.category]) (Nat.le_of_ble_eq_true rfl) (fun G X Y => ?_)
  show G 0 0 0 [some (.ref (q 10)), some (.int x)] [] N q f
  refine zr_iload_n X d_O_parent_0 rfl ?_
  refine zr_if_le (tgt := 12) X d_O_parent_1 rfl (fun h1 => ?_) (fun h1 => ?_)
  · skip
    refine zr_iconst (v := (-1)) X d_O_parent_12 (by decide) ?_
    refine zr_goto (tgt := 22) X d_O_parent_13 rfl ?_
    refine zr_ireturn Y d_O_parent_22 rfl (Nat.le_of_ble_eq_true rfl) (Nat.le_of_ble_eq_true rfl) ?_
    exact ⟨rfl, rfl, rfl, rfl⟩
  · skip
    refine zr_iload_n X d_O_parent_4 rfl ?_
    refine zr_aload_n X d_O_parent_5 rfl ?_
    refine zr_get X F_O_7 d_O_parent_6 (by omega) h10 (v := .int (nI n)) rfl ?_
    refine zr_icmp_ltf (tgt := 16) X d_O_parent_9 rfl (z_not_lt (hx.resolve_left (fun h9 => h1 (Int32.le_of_lt h9)))) ?_
    refine zr_iconst (v := (-1)) X d_O_parent_12 (by decide) ?_
    refine zr_goto (tgt := 22) X d_O_parent_13 rfl ?_
    refine zr_ireturn Y d_O_parent_22 rfl (Nat.le_of_ble_eq_true rfl) (Nat.le_of_ble_eq_true rfl) ?_
    exact ⟨rfl, rfl, rfl, rfl⟩

/-- children of t among the versions 1 .. n - 1: how many; the latest -/
def zcc (pa : Nat → Int32) (t : Nat) : Nat → Nat
  | 0 => 0
  | u + 1 => zcc pa t u + if 0 < u ∧ pa u = nI t then 1 else 0
def zlt (pa : Nat → Int32) (t : Nat) : Nat → Option Nat
  | 0 => none
  | u + 1 => if 0 < u ∧ pa u = nI t then some u else zlt pa t u
theorem zcc_le (pa : Nat → Int32) (t : Nat) : ∀ u, zcc pa t u ≤ u
  | 0 => Nat.le_refl _
  | u + 1 => by
    have := zcc_le pa t u
    unfold zcc
    split <;> omega
theorem zcc_1 {pa : Nat → Int32} {t : Nat} : zcc pa t 1 = 0 := by simp [zcc]
theorem zlt_1 {pa : Nat → Int32} {t : Nat} : zlt pa t 1 = none := by simp [zlt]

set_option maxRecDepth 100000 in
set_option maxHeartbeats 4000000 in
theorem c_O_children_y {l : Launch} {D : va_G} {cI cC cZ cV : ClassId} {N : Nat} {q : Nat → Nat} {f : zF} (hN : 23 ≤ N) {n po th sz ty : Nat} (h10 : f 10 = zmo q n po th sz ty) {pa : Nat → Int32} (h11 : f 11 = .inl (cI, 122, .inl pa)) {v : Nat} (hv : v < n) (hn2 : n ≤ 122) : zC l y_O_children b_O_children 4 (some .int) (rmD 0 0 0) D (zty cI cC cZ cV) [.ref (q 10), .int (nI v)] N q f (pRd N q f (nI (zcc pa v n))) := by
  refine zC.of (by decide) (by simp [Value.category]) (Nat.le_of_ble_eq_true rfl) (fun G X Y => ?_)
  show G 0 0 0 [some (.ref (q 10)), some (.int (nI v)), none, none] [] N q f
  have loop : ∀ (d i : Nat), i + d = n → 0 < i → G 0 0 18 [some (.ref (q 10)), some (.int (nI v)), some (.int (nI (zcc pa v i))), some (.int (nI i))] [] N q f := by
    intro d
    induction d with
    | zero =>
      intro i hi hi0
      show G 0 0 18 [some (.ref (q 10)), some (.int (nI v)), some (.int (nI (zcc pa v i))), some (.int (nI i))] [] N q f
      refine zr_iload_n X d_O_children_18 rfl ?_
      refine zr_aload_n X d_O_children_19 rfl ?_
      refine zr_get X F_O_7 d_O_children_20 (by omega) h10 (v := .int (nI n)) rfl ?_
      refine zr_icmp_get (tgt := 50) X d_O_children_23 rfl (nI_le (by omega) (by omega)) ?_
      refine zr_iload_n X d_O_children_50 rfl ?_
      refine zr_ireturn Y d_O_children_51 rfl (Nat.le_of_ble_eq_true rfl) (Nat.le_of_ble_eq_true rfl) ?_
      exact ⟨by rw [show i = n by omega], rfl, rfl, rfl⟩
    | succ d ih =>
      intro i hi hi0
      show G 0 0 18 [some (.ref (q 10)), some (.int (nI v)), some (.int (nI (zcc pa v i))), some (.int (nI i))] [] N q f
      refine zr_iload_n X d_O_children_18 rfl ?_
      refine zr_aload_n X d_O_children_19 rfl ?_
      refine zr_get X F_O_7 d_O_children_20 (by omega) h10 (v := .int (nI n)) rfl ?_
      refine zr_icmp_gef (tgt := 50) X d_O_children_23 rfl (nI_ge (by omega) (by omega)) ?_
      refine zr_aload_n X d_O_children_26 rfl ?_
      refine zr_get X F_O_13 d_O_children_27 (by omega) h10 (v := .ref (q 11)) rfl ?_
      refine zr_iload_n X d_O_children_30 rfl ?_
      refine zr_iaload (v := pa i) X 0 d_O_children_31 (by omega) h11 rfl (by omega) (by decide) rfl ?_
      refine zr_iload_n X d_O_children_32 rfl ?_
      refine zr_icmp_ne (tgt := 42) X d_O_children_33 rfl (fun h33 => ?_) (fun h33 => ?_)
      · skip
        refine zr_iload_n X d_O_children_42 rfl ?_
        refine zr_istore_n (lv' := [some (.ref (q 10)), some (.int (nI v)), some (.int (nI (zcc pa v i))), some (.int (nI i))]) X d_O_children_43 (by decide) rfl ?_
        refine zr_iinc (v := nI (i + 1)) (lv' := [some (.ref (q 10)), some (.int (nI v)), some (.int (nI (zcc pa v i))), some (.int (nI (i + 1)))]) X d_O_children_44 rfl (nI_1 _) (by decide) rfl ?_
        refine zr_goto (tgt := 18) X d_O_children_47 rfl ?_
        have h9 := ih (i + 1) (by omega) (by omega)
        rw [show zcc pa v (i + 1) = zcc pa v i from by show zcc pa v i + _ = _; rw [if_neg (fun h8 => h33 h8.2)]; rfl] at h9
        exact h9
      · skip
        refine zr_iload_n X d_O_children_36 rfl ?_
        refine zr_iconst (v := nI 1) X d_O_children_37 (by decide) ?_
        refine zr_iadd (z := nI ((zcc pa v i) + 1)) X d_O_children_38 (nI_add _ _) ?_
        refine zr_goto (tgt := 43) X d_O_children_39 rfl ?_
        refine zr_istore_n (lv' := [some (.ref (q 10)), some (.int (nI v)), some (.int (nI ((zcc pa v i) + 1))), some (.int (nI i))]) X d_O_children_43 (by decide) rfl ?_
        refine zr_iinc (v := nI (i + 1)) (lv' := [some (.ref (q 10)), some (.int (nI v)), some (.int (nI ((zcc pa v i) + 1))), some (.int (nI (i + 1)))]) X d_O_children_44 rfl (nI_1 _) (by decide) rfl ?_
        refine zr_goto (tgt := 18) X d_O_children_47 rfl ?_
        have h9 := ih (i + 1) (by omega) (by omega)
        rw [show zcc pa v (i + 1) = zcc pa v i + 1 from by show zcc pa v i + _ = _; rw [if_pos ⟨hi0, h33⟩]] at h9
        exact h9
  refine zr_iload_n X d_O_children_0 rfl ?_
  refine zr_if_ltf (tgt := 12) X d_O_children_1 rfl (nI_pos (by omega)) ?_
  refine zr_iload_n X d_O_children_4 rfl ?_
  refine zr_aload_n X d_O_children_5 rfl ?_
  refine zr_get X F_O_7 d_O_children_6 (by omega) h10 (v := .int (nI n)) rfl ?_
  refine zr_icmp_ltt (tgt := 14) X d_O_children_9 rfl (nI_lt hv (by omega)) ?_
  refine zr_iconst (v := nI 0) X d_O_children_14 (by decide) ?_
  refine zr_istore_n (lv' := [some (.ref (q 10)), some (.int (nI v)), some (.int (nI 0)), none]) X d_O_children_15 (by decide) rfl ?_
  refine zr_iconst (v := nI 1) X d_O_children_16 (by decide) ?_
  refine zr_istore_n (lv' := [some (.ref (q 10)), some (.int (nI v)), some (.int (nI 0)), some (.int (nI 1))]) X d_O_children_17 (by decide) rfl ?_
  have h0 := loop (n - 1) 1 (by omega) (by omega)
  rw [zcc_1] at h0
  exact h0

set_option maxRecDepth 100000 in
set_option maxHeartbeats 4000000 in
theorem c_O_children_n {l : Launch} {D : va_G} {cI cC cZ cV : ClassId} {N : Nat} {q : Nat → Nat} {f : zF} (hN : 23 ≤ N) {n po th sz ty : Nat} (h10 : f 10 = zmo q n po th sz ty) {x : Int32} (hx : zNa x n) : zC l y_O_children b_O_children 4 (some .int) (rmD 0 0 0) D (zty cI cC cZ cV) [.ref (q 10), .int x] N q f (pRd N q f (-1)) := by
  refine zC.of (by decide) (by simp [Value.category]) (Nat.le_of_ble_eq_true rfl) (fun G X Y => ?_)
  show G 0 0 0 [some (.ref (q 10)), some (.int x), none, none] [] N q f
  refine zr_iload_n X d_O_children_0 rfl ?_
  refine zr_if_lt (tgt := 12) X d_O_children_1 rfl (fun h1 => ?_) (fun h1 => ?_)
  · skip
    refine zr_iconst (v := (-1)) X d_O_children_12 (by decide) ?_
    refine zr_ireturn Y d_O_children_13 rfl (Nat.le_of_ble_eq_true rfl) (Nat.le_of_ble_eq_true rfl) ?_
    exact ⟨rfl, rfl, rfl, rfl⟩
  · skip
    refine zr_iload_n X d_O_children_4 rfl ?_
    refine zr_aload_n X d_O_children_5 rfl ?_
    refine zr_get X F_O_7 d_O_children_6 (by omega) h10 (v := .int (nI n)) rfl ?_
    refine zr_icmp_ltf (tgt := 14) X d_O_children_9 rfl (z_not_lt (hx.resolve_left h1)) ?_
    refine zr_iconst (v := (-1)) X d_O_children_12 (by decide) ?_
    refine zr_ireturn Y d_O_children_13 rfl (Nat.le_of_ble_eq_true rfl) (Nat.le_of_ble_eq_true rfl) ?_
    exact ⟨rfl, rfl, rfl, rfl⟩

set_option maxRecDepth 100000 in
set_option maxHeartbeats 4000000 in
theorem c_O_lineOf_y {l : Launch} {D : va_G} {cI cC cZ cV : ClassId} {N : Nat} {q : Nat → Nat} {f : zF} (hN : 23 ≤ N) {n po th sz ty : Nat} (h10 : f 10 = zmo q n po th sz ty) {tx : Nat → Int32} (h17 : f 17 = .inl (cC, 2000, .inl tx)) {p : Nat} (hp : p ≤ sz) (hs : sz ≤ 2000) : zC l y_O_lineOf b_O_lineOf 4 (some .int) (rmD 1 0 0) D (zty cI cC cZ cV) [.ref (q 10), .int (nI p)] N q f (pRd N q f (nI (znl tx p))) := by
  refine zC.of (by decide) (by simp [Value.category]) (Nat.le_of_ble_eq_true rfl) (fun G X Y => ?_)
  show G 0 0 0 [some (.ref (q 10)), some (.int (nI p)), none, none] [] N q f
  have loop : ∀ (d i : Nat), i + d = p → G 0 0 14 [some (.ref (q 10)), some (.int (nI p)), some (.int (nI (znl tx i))), some (.int (nI i))] [] N q f := by
    intro d
    induction d with
    | zero =>
      intro i hi
      show G 0 0 14 [some (.ref (q 10)), some (.int (nI p)), some (.int (nI (znl tx i))), some (.int (nI i))] [] N q f
      refine zr_iload_n X d_O_lineOf_14 rfl ?_
      refine zr_iload_n X d_O_lineOf_15 rfl ?_
      refine zr_icmp_get (tgt := 44) X d_O_lineOf_16 rfl (nI_le (by omega) (by omega)) ?_
      refine zr_iload_n X d_O_lineOf_44 rfl ?_
      refine zr_ireturn Y d_O_lineOf_45 rfl (Nat.le_of_ble_eq_true rfl) (Nat.le_of_ble_eq_true rfl) ?_
      exact ⟨by rw [show i = p by omega], rfl, rfl, rfl⟩
    | succ d ih =>
      intro i hi
      show G 0 0 14 [some (.ref (q 10)), some (.int (nI p)), some (.int (nI (znl tx i))), some (.int (nI i))] [] N q f
      refine zr_iload_n X d_O_lineOf_14 rfl ?_
      refine zr_iload_n X d_O_lineOf_15 rfl ?_
      refine zr_icmp_gef (tgt := 44) X d_O_lineOf_16 rfl (nI_ge (by omega) (by omega)) ?_
      refine zr_aload_n X d_O_lineOf_19 rfl ?_
      refine zr_get X F_O_34 d_O_lineOf_20 (by omega) h10 (v := .ref (q 17)) rfl ?_
      refine zr_iload_n X d_O_lineOf_23 rfl ?_
      refine zr_caload (v := tx i) X 1 d_O_lineOf_24 (by omega) h17 rfl (by omega) (by decide) rfl ?_
      refine zr_bipush (v := 10) X d_O_lineOf_25 (by decide) ?_
      refine zr_icmp_ne (tgt := 36) X d_O_lineOf_27 rfl (fun h27 => ?_) (fun h27 => ?_)
      · skip
        refine zr_iload_n X d_O_lineOf_36 rfl ?_
        refine zr_istore_n (lv' := [some (.ref (q 10)), some (.int (nI p)), some (.int (nI (znl tx i))), some (.int (nI i))]) X d_O_lineOf_37 (by decide) rfl ?_
        refine zr_iinc (v := nI (i + 1)) (lv' := [some (.ref (q 10)), some (.int (nI p)), some (.int (nI (znl tx i))), some (.int (nI (i + 1)))]) X d_O_lineOf_38 rfl (nI_1 _) (by decide) rfl ?_
        refine zr_goto (tgt := 14) X d_O_lineOf_41 rfl ?_
        have h9 := ih (i + 1) (by omega)
        rw [znl_no h27] at h9
        exact h9
      · skip
        refine zr_iload_n X d_O_lineOf_30 rfl ?_
        refine zr_iconst (v := nI 1) X d_O_lineOf_31 (by decide) ?_
        refine zr_iadd (z := nI ((znl tx i) + 1)) X d_O_lineOf_32 (nI_add _ _) ?_
        refine zr_goto (tgt := 37) X d_O_lineOf_33 rfl ?_
        refine zr_istore_n (lv' := [some (.ref (q 10)), some (.int (nI p)), some (.int (nI ((znl tx i) + 1))), some (.int (nI i))]) X d_O_lineOf_37 (by decide) rfl ?_
        refine zr_iinc (v := nI (i + 1)) (lv' := [some (.ref (q 10)), some (.int (nI p)), some (.int (nI ((znl tx i) + 1))), some (.int (nI (i + 1)))]) X d_O_lineOf_38 rfl (nI_1 _) (by decide) rfl ?_
        refine zr_goto (tgt := 14) X d_O_lineOf_41 rfl ?_
        have h9 := ih (i + 1) (by omega)
        rw [znl_nl h27] at h9
        exact h9
  refine zr_aload_n X d_O_lineOf_0 rfl ?_
  refine zr_iload_n X d_O_lineOf_1 rfl ?_
  refine zr_callV X K_O_79 KI_O_79 KS_O_79 (c_O_isPosition_y hN h10 (by omega) hp) d_O_lineOf_2 (by omega) h10 rfl rfl (by decide) (Nat.le_of_ble_eq_true rfl) (by decide) (st := []) rfl (kRd ?_)
  show G 0 0 5 [some (.ref (q 10)), some (.int (nI p)), none, none] [.int (nI 1)] N q f
  refine zr_if_net (tgt := 10) X d_O_lineOf_5 rfl (by decide) ?_
  refine zr_iconst (v := nI 0) X d_O_lineOf_10 (by decide) ?_
  refine zr_istore_n (lv' := [some (.ref (q 10)), some (.int (nI p)), some (.int (nI 0)), none]) X d_O_lineOf_11 (by decide) rfl ?_
  refine zr_iconst (v := nI 0) X d_O_lineOf_12 (by decide) ?_
  refine zr_istore_n (lv' := [some (.ref (q 10)), some (.int (nI p)), some (.int (nI 0)), some (.int (nI 0))]) X d_O_lineOf_13 (by decide) rfl ?_
  exact loop p 0 (by omega)

set_option maxRecDepth 100000 in
set_option maxHeartbeats 4000000 in
theorem c_O_lineOf_n {l : Launch} {D : va_G} {cI cC cZ cV : ClassId} {N : Nat} {q : Nat → Nat} {f : zF} (hN : 23 ≤ N) {n po th sz ty : Nat} (h10 : f 10 = zmo q n po th sz ty) {x : Int32} (hx : zNo x sz) : zC l y_O_lineOf b_O_lineOf 4 (some .int) (rmD 1 0 0) D (zty cI cC cZ cV) [.ref (q 10), .int x] N q f (pRd N q f (-1)) := by
  refine zC.of (by decide) (by simp [Value.category]) (Nat.le_of_ble_eq_true rfl) (fun G X Y => ?_)
  show G 0 0 0 [some (.ref (q 10)), some (.int x), none, none] [] N q f
  refine zr_aload_n X d_O_lineOf_0 rfl ?_
  refine zr_iload_n X d_O_lineOf_1 rfl ?_
  refine zr_callV X K_O_79 KI_O_79 KS_O_79 (c_O_isPosition_n hN h10 hx) d_O_lineOf_2 (by omega) h10 rfl rfl (by decide) (Nat.le_of_ble_eq_true rfl) (by decide) (st := []) rfl (kRd ?_)
  show G 0 0 5 [some (.ref (q 10)), some (.int x), none, none] [.int (nI 0)] N q f
  refine zr_if_nef (tgt := 10) X d_O_lineOf_5 rfl (by decide) ?_
  refine zr_iconst (v := (-1)) X d_O_lineOf_8 (by decide) ?_
  refine zr_ireturn Y d_O_lineOf_9 rfl (Nat.le_of_ble_eq_true rfl) (Nat.le_of_ble_eq_true rfl) ?_
  exact ⟨rfl, rfl, rfl, rfl⟩

set_option maxRecDepth 100000 in
set_option maxHeartbeats 4000000 in
theorem c_O_lines {l : Launch} {D : va_G} {cI cC cZ cV : ClassId} {N : Nat} {q : Nat → Nat} {f : zF} (hN : 23 ≤ N) {n po th sz ty : Nat} (h10 : f 10 = zmo q n po th sz ty) {tx : Nat → Int32} (h17 : f 17 = .inl (cC, 2000, .inl tx)) (hs : sz ≤ 2000) : zC l y_O_lines b_O_lines 1 (some .int) (rmD 2 0 0) D (zty cI cC cZ cV) [.ref (q 10)] N q f (pRd N q f (nI (znl tx sz + 1))) := by
  refine zC.of (by decide) (by simp [Value.category]) (Nat.le_of_ble_eq_true rfl) (fun G X Y => ?_)
  show G 0 0 0 [some (.ref (q 10))] [] N q f
  refine zr_aload_n X d_O_lines_0 rfl ?_
  refine zr_aload_n X d_O_lines_1 rfl ?_
  refine zr_get X F_O_55 d_O_lines_2 (by omega) h10 (v := .int (nI sz)) rfl ?_
  refine zr_callV X K_O_103 KI_O_103 KS_O_103 (c_O_lineOf_y hN h10 h17 (Nat.le_refl _) hs) d_O_lines_5 (by omega) h10 rfl rfl (by decide) (Nat.le_of_ble_eq_true rfl) (by decide) (st := []) rfl (kRd ?_)
  show G 0 0 8 [some (.ref (q 10))] [.int (nI (znl tx sz))] N q f
  refine zr_iconst (v := nI 1) X d_O_lines_8 (by decide) ?_
  refine zr_iadd (z := nI ((znl tx sz) + 1)) X d_O_lines_9 (nI_add _ _) ?_
  refine zr_ireturn Y d_O_lines_10 rfl (Nat.le_of_ble_eq_true rfl) (Nat.le_of_ble_eq_true rfl) ?_
  exact ⟨rfl, rfl, rfl, rfl⟩

def zLSx (g : Nat → Int32) (sz : Nat) (x r : Int32) : Prop := (∃ p, p ≤ sz ∧ r = nI p ∧ nI (znl g p) = x ∧ ∀ p', p' < p → ¬ nI (znl g p') = x) ∨ (r = -1 ∧ ∀ p, p ≤ sz → ¬ nI (znl g p) = x)

set_option maxRecDepth 100000 in
set_option maxHeartbeats 4000000 in
theorem c_O_lineStart {l : Launch} {D : va_G} {cI cC cZ cV : ClassId} {N : Nat} {q : Nat → Nat} {f : zF} (hN : 23 ≤ N) {n po th sz ty : Nat} (h10 : f 10 = zmo q n po th sz ty) {tx : Nat → Int32} (h17 : f 17 = .inl (cC, 2000, .inl tx)) {x : Int32} (hs : sz ≤ 2000) : zC l y_O_lineStart b_O_lineStart 4 (some .int) (rmD 0 0 0) D (zty cI cC cZ cV) [.ref (q 10), .int x] N q f (pI N q (fun r f' => f' = f ∧ zLSx tx sz x r)) := by
  refine zC.of (by decide) (by simp [Value.category]) (Nat.le_of_ble_eq_true rfl) (fun G X Y => ?_)
  show G 0 0 0 [some (.ref (q 10)), some (.int x), none, none] [] N q f
  have loop : ∀ (d i : Nat), i + d = sz + 1 → (∀ a, a < i → ¬ nI (znl tx a) = x) → G 0 0 4 [some (.ref (q 10)), some (.int x), some (.int (nI (znl tx (i - 1)))), some (.int (nI i))] [] N q f := by
    intro d
    induction d with
    | zero =>
      intro i hi hk
      show G 0 0 4 [some (.ref (q 10)), some (.int x), some (.int (nI (znl tx (i - 1)))), some (.int (nI i))] [] N q f
      refine zr_iload_n X d_O_lineStart_4 rfl ?_
      refine zr_aload_n X d_O_lineStart_5 rfl ?_
      refine zr_get X F_O_55 d_O_lineStart_6 (by omega) h10 (v := .int (nI sz)) rfl ?_
      refine zr_icmp_gtt (tgt := 50) X d_O_lineStart_9 rfl (nI_lt (by omega) (by omega)) ?_
      refine zr_iconst (v := (-1)) X d_O_lineStart_50 (by decide) ?_
      refine zr_ireturn Y d_O_lineStart_51 rfl (Nat.le_of_ble_eq_true rfl) (Nat.le_of_ble_eq_true rfl) ?_
      exact ⟨_, rfl, rfl, rfl, rfl, Or.inr ⟨rfl, fun p9 hp9 => hk p9 (by omega)⟩⟩
    | succ d ih =>
      intro i hi hk
      cases i with
      | zero =>
        show G 0 0 4 [some (.ref (q 10)), some (.int x), some (.int (nI 0)), some (.int (nI 0))] [] N q f
        refine zr_iload_n X d_O_lineStart_4 rfl ?_
        refine zr_aload_n X d_O_lineStart_5 rfl ?_
        refine zr_get X F_O_55 d_O_lineStart_6 (by omega) h10 (v := .int (nI sz)) rfl ?_
        refine zr_icmp_gtf (tgt := 50) X d_O_lineStart_9 rfl (nI_nlt (by omega) (by omega)) ?_
        refine zr_iload_n X d_O_lineStart_12 rfl ?_
        refine zr_if_let (tgt := 35) X d_O_lineStart_13 rfl (by decide) ?_
        refine zr_iload_n X d_O_lineStart_35 rfl ?_
        refine zr_istore_n (lv' := [some (.ref (q 10)), some (.int x), some (.int (nI 0)), some (.int (nI 0))]) X d_O_lineStart_36 (by decide) rfl ?_
        refine zr_iload_n X d_O_lineStart_37 rfl ?_
        refine zr_iload_n X d_O_lineStart_38 rfl ?_
        refine zr_icmp_ne (tgt := 44) X d_O_lineStart_39 rfl (fun h39 => ?_) (fun h39 => ?_)
        · skip
          refine zr_iinc (v := nI (0 + 1)) (lv' := [some (.ref (q 10)), some (.int x), some (.int (nI 0)), some (.int (nI (0 + 1)))]) X d_O_lineStart_44 rfl (nI_1 _) (by decide) rfl ?_
          refine zr_goto (tgt := 4) X d_O_lineStart_47 rfl ?_
          exact ih 1 (by omega) (lt_s (fun a ha => absurd ha (Nat.not_lt_zero _)) h39)
        · skip
          refine zr_iload_n X d_O_lineStart_42 rfl ?_
          refine zr_ireturn Y d_O_lineStart_43 rfl (Nat.le_of_ble_eq_true rfl) (Nat.le_of_ble_eq_true rfl) ?_
          exact ⟨_, rfl, rfl, rfl, rfl, Or.inl ⟨0, by omega, rfl, h39, fun p9 hp9 => absurd hp9 (Nat.not_lt_zero _)⟩⟩
      | succ i =>
        show G 0 0 4 [some (.ref (q 10)), some (.int x), some (.int (nI (znl tx i))), some (.int (nI (i + 1)))] [] N q f
        refine zr_iload_n X d_O_lineStart_4 rfl ?_
        refine zr_aload_n X d_O_lineStart_5 rfl ?_
        refine zr_get X F_O_55 d_O_lineStart_6 (by omega) h10 (v := .int (nI sz)) rfl ?_
        refine zr_icmp_gtf (tgt := 50) X d_O_lineStart_9 rfl (nI_nlt (by omega) (by omega)) ?_
        refine zr_iload_n X d_O_lineStart_12 rfl ?_
        refine zr_if_lef (tgt := 35) X d_O_lineStart_13 rfl (nI_nle (by omega) (by omega)) ?_
        refine zr_aload_n X d_O_lineStart_16 rfl ?_
        refine zr_get X F_O_34 d_O_lineStart_17 (by omega) h10 (v := .ref (q 17)) rfl ?_
        refine zr_iload_n X d_O_lineStart_20 rfl ?_
        refine zr_iconst (v := 1) X d_O_lineStart_21 (by decide) ?_
        refine zr_isub (z := nI i) X d_O_lineStart_22 (nI_pred i) ?_
        refine zr_caload (v := tx i) X 1 d_O_lineStart_23 (by omega) h17 rfl (by omega) (by decide) rfl ?_
        refine zr_bipush (v := 10) X d_O_lineStart_24 (by decide) ?_
        refine zr_icmp_ne (tgt := 35) X d_O_lineStart_26 rfl (fun h26 => ?_) (fun h26 => ?_)
        · skip
          refine zr_iload_n X d_O_lineStart_35 rfl ?_
          refine zr_istore_n (lv' := [some (.ref (q 10)), some (.int x), some (.int (nI (znl tx i))), some (.int (nI (i + 1)))]) X d_O_lineStart_36 (by decide) rfl ?_
          refine zr_iload_n X d_O_lineStart_37 rfl ?_
          refine zr_iload_n X d_O_lineStart_38 rfl ?_
          refine zr_icmp_ne (tgt := 44) X d_O_lineStart_39 rfl (fun h39 => ?_) (fun h39 => ?_)
          · skip
            refine zr_iinc (v := nI (i + 1 + 1)) (lv' := [some (.ref (q 10)), some (.int x), some (.int (nI (znl tx i))), some (.int (nI (i + 1 + 1)))]) X d_O_lineStart_44 rfl (nI_1 _) (by decide) rfl ?_
            refine zr_goto (tgt := 4) X d_O_lineStart_47 rfl ?_
            have h9 := ih (i + 1 + 1) (by omega) (lt_s hk (by rw [znl_no h26]; exact h39))
            rw [show i + 1 + 1 - 1 = i + 1 from rfl, znl_no h26] at h9
            exact h9
          · skip
            refine zr_iload_n X d_O_lineStart_42 rfl ?_
            refine zr_ireturn Y d_O_lineStart_43 rfl (Nat.le_of_ble_eq_true rfl) (Nat.le_of_ble_eq_true rfl) ?_
            exact ⟨_, rfl, rfl, rfl, rfl, Or.inl ⟨i + 1, by omega, rfl, by rw [znl_no h26]; exact h39, hk⟩⟩
        · skip
          refine zr_iload_n X d_O_lineStart_29 rfl ?_
          refine zr_iconst (v := nI 1) X d_O_lineStart_30 (by decide) ?_
          refine zr_iadd (z := nI ((znl tx i) + 1)) X d_O_lineStart_31 (nI_add _ _) ?_
          refine zr_goto (tgt := 36) X d_O_lineStart_32 rfl ?_
          refine zr_istore_n (lv' := [some (.ref (q 10)), some (.int x), some (.int (nI ((znl tx i) + 1))), some (.int (nI (i + 1)))]) X d_O_lineStart_36 (by decide) rfl ?_
          refine zr_iload_n X d_O_lineStart_37 rfl ?_
          refine zr_iload_n X d_O_lineStart_38 rfl ?_
          refine zr_icmp_ne (tgt := 44) X d_O_lineStart_39 rfl (fun h39 => ?_) (fun h39 => ?_)
          · skip
            refine zr_iinc (v := nI (i + 1 + 1)) (lv' := [some (.ref (q 10)), some (.int x), some (.int (nI ((znl tx i) + 1))), some (.int (nI (i + 1 + 1)))]) X d_O_lineStart_44 rfl (nI_1 _) (by decide) rfl ?_
            refine zr_goto (tgt := 4) X d_O_lineStart_47 rfl ?_
            have h9 := ih (i + 1 + 1) (by omega) (lt_s hk (by rw [znl_nl h26]; exact h39))
            rw [show i + 1 + 1 - 1 = i + 1 from rfl, znl_nl h26] at h9
            exact h9
          · skip
            refine zr_iload_n X d_O_lineStart_42 rfl ?_
            refine zr_ireturn Y d_O_lineStart_43 rfl (Nat.le_of_ble_eq_true rfl) (Nat.le_of_ble_eq_true rfl) ?_
            exact ⟨_, rfl, rfl, rfl, rfl, Or.inl ⟨i + 1, by omega, rfl, by rw [znl_nl h26]; exact h39, hk⟩⟩
  refine zr_iconst (v := nI 0) X d_O_lineStart_0 (by decide) ?_
  refine zr_istore_n (lv' := [some (.ref (q 10)), some (.int x), some (.int (nI 0)), none]) X d_O_lineStart_1 (by decide) rfl ?_
  refine zr_iconst (v := nI 0) X d_O_lineStart_2 (by decide) ?_
  refine zr_istore_n (lv' := [some (.ref (q 10)), some (.int x), some (.int (nI 0)), some (.int (nI 0))]) X d_O_lineStart_3 (by decide) rfl ?_
  exact loop (sz + 1) 0 (by omega) (fun a ha => absurd ha (Nat.not_lt_zero _))

set_option maxRecDepth 100000 in
set_option maxHeartbeats 4000000 in
theorem c_O_isScratch {l : Launch} {D : va_G} {cI cC cZ cV : ClassId} {N : Nat} {q : Nat → Nat} {f : zF} (hN : 23 ≤ N) {n po th sz ty : Nat} (h10 : f 10 = zmo q n po th sz ty) {tx : Nat → Int32} (h17 : f 17 = .inl (cC, 2000, .inl tx)) {sc : Nat → Int32} (h19 : f 19 = .inl (cC, 40, .inl sc)) {p : Nat} (hp : p ≤ 2000) (hs : sz ≤ 2000) (ht : ty ≤ 40) : zC l y_O_isScratch b_O_isScratch 3 (some .boolean) (rmD 0 0 0) D (zty cI cC cZ cV) [.ref (q 10), .int (nI p)] N q f (pI N q (fun r f' => f' = f ∧ ((r = nI 1 ∧ ∀ a, a < ty → p + a < sz ∧ tx (p + a) = sc a) ∨ (r = nI 0 ∧ ∃ a, a < ty ∧ ¬ (p + a < sz ∧ tx (p + a) = sc a))))) := by
  refine zC.of (by decide) (by simp [Value.category]) (Nat.le_of_ble_eq_true rfl) (fun G X Y => ?_)
  show G 0 0 0 [some (.ref (q 10)), some (.int (nI p)), none] [] N q f
  have loop : ∀ (d i : Nat), i + d = ty → (∀ a, a < i → p + a < sz ∧ tx (p + a) = sc a) → G 0 0 2 [some (.ref (q 10)), some (.int (nI p)), some (.int (nI i))] [] N q f := by
    intro d
    induction d with
    | zero =>
      intro i hi hk
      show G 0 0 2 [some (.ref (q 10)), some (.int (nI p)), some (.int (nI i))] [] N q f
      refine zr_iload_n X d_O_isScratch_2 rfl ?_
      refine zr_aload_n X d_O_isScratch_3 rfl ?_
      refine zr_get X F_O_52 d_O_isScratch_4 (by omega) h10 (v := .int (nI ty)) rfl ?_
      refine zr_icmp_get (tgt := 45) X d_O_isScratch_7 rfl (nI_le (by omega) (by omega)) ?_
      refine zr_iconst (v := nI 1) X d_O_isScratch_45 (by decide) ?_
      refine zr_ireturn Y d_O_isScratch_46 rfl (Nat.le_of_ble_eq_true rfl) (Nat.le_of_ble_eq_true rfl) ?_
      exact ⟨_, rfl, rfl, rfl, rfl, Or.inl ⟨rfl, fun a ha => hk a (by omega)⟩⟩
    | succ d ih =>
      intro i hi hk
      by_cases hin : p + i < sz
      · skip
        show G 0 0 2 [some (.ref (q 10)), some (.int (nI p)), some (.int (nI i))] [] N q f
        refine zr_iload_n X d_O_isScratch_2 rfl ?_
        refine zr_aload_n X d_O_isScratch_3 rfl ?_
        refine zr_get X F_O_52 d_O_isScratch_4 (by omega) h10 (v := .int (nI ty)) rfl ?_
        refine zr_icmp_gef (tgt := 45) X d_O_isScratch_7 rfl (nI_ge (by omega) (by omega)) ?_
        refine zr_iload_n X d_O_isScratch_10 rfl ?_
        refine zr_iload_n X d_O_isScratch_11 rfl ?_
        refine zr_iadd (z := nI (p + i)) X d_O_isScratch_12 (nI_add _ _) ?_
        refine zr_aload_n X d_O_isScratch_13 rfl ?_
        refine zr_get X F_O_55 d_O_isScratch_14 (by omega) h10 (v := .int (nI sz)) rfl ?_
        refine zr_icmp_gef (tgt := 37) X d_O_isScratch_17 rfl (nI_ge hin (by omega)) ?_
        refine zr_aload_n X d_O_isScratch_20 rfl ?_
        refine zr_get X F_O_34 d_O_isScratch_21 (by omega) h10 (v := .ref (q 17)) rfl ?_
        refine zr_iload_n X d_O_isScratch_24 rfl ?_
        refine zr_iload_n X d_O_isScratch_25 rfl ?_
        refine zr_iadd (z := nI (p + i)) X d_O_isScratch_26 (nI_add _ _) ?_
        refine zr_caload (v := tx (p + i)) X 1 d_O_isScratch_27 (by omega) h17 rfl (by omega) (by decide) rfl ?_
        refine zr_aload_n X d_O_isScratch_28 rfl ?_
        refine zr_get X F_O_40 d_O_isScratch_29 (by omega) h10 (v := .ref (q 19)) rfl ?_
        refine zr_iload_n X d_O_isScratch_32 rfl ?_
        refine zr_caload (v := sc i) X 1 d_O_isScratch_33 (by omega) h19 rfl (by omega) (by decide) rfl ?_
        refine zr_icmp_eq (tgt := 39) X d_O_isScratch_34 rfl (fun h34 => ?_) (fun h34 => ?_)
        · skip
          refine zr_iinc (v := nI (i + 1)) (lv' := [some (.ref (q 10)), some (.int (nI p)), some (.int (nI (i + 1)))]) X d_O_isScratch_39 rfl (nI_1 _) (by decide) rfl ?_
          refine zr_goto (tgt := 2) X d_O_isScratch_42 rfl ?_
          exact ih (i + 1) (by omega) (lt_s hk ⟨hin, h34⟩)
        · skip
          refine zr_iconst (v := nI 0) X d_O_isScratch_37 (by decide) ?_
          refine zr_ireturn Y d_O_isScratch_38 rfl (Nat.le_of_ble_eq_true rfl) (Nat.le_of_ble_eq_true rfl) ?_
          exact ⟨_, rfl, rfl, rfl, rfl, Or.inr ⟨rfl, i, by omega, fun h9 => h34 h9.2⟩⟩
      · skip
        show G 0 0 2 [some (.ref (q 10)), some (.int (nI p)), some (.int (nI i))] [] N q f
        refine zr_iload_n X d_O_isScratch_2 rfl ?_
        refine zr_aload_n X d_O_isScratch_3 rfl ?_
        refine zr_get X F_O_52 d_O_isScratch_4 (by omega) h10 (v := .int (nI ty)) rfl ?_
        refine zr_icmp_gef (tgt := 45) X d_O_isScratch_7 rfl (nI_ge (by omega) (by omega)) ?_
        refine zr_iload_n X d_O_isScratch_10 rfl ?_
        refine zr_iload_n X d_O_isScratch_11 rfl ?_
        refine zr_iadd (z := nI (p + i)) X d_O_isScratch_12 (nI_add _ _) ?_
        refine zr_aload_n X d_O_isScratch_13 rfl ?_
        refine zr_get X F_O_55 d_O_isScratch_14 (by omega) h10 (v := .int (nI sz)) rfl ?_
        refine zr_icmp_get (tgt := 37) X d_O_isScratch_17 rfl (nI_le (by omega) (by omega)) ?_
        refine zr_iconst (v := nI 0) X d_O_isScratch_37 (by decide) ?_
        refine zr_ireturn Y d_O_isScratch_38 rfl (Nat.le_of_ble_eq_true rfl) (Nat.le_of_ble_eq_true rfl) ?_
        exact ⟨_, rfl, rfl, rfl, rfl, Or.inr ⟨rfl, i, by omega, fun h9 => hin h9.1⟩⟩
  refine zr_iconst (v := nI 0) X d_O_isScratch_0 (by decide) ?_
  refine zr_istore_n (lv' := [some (.ref (q 10)), some (.int (nI p)), some (.int (nI 0))]) X d_O_isScratch_1 (by decide) rfl ?_
  exact loop ty 0 (by omega) (fun a ha => absurd ha (Nat.not_lt_zero _))

/-- the scratch begins at p; r is the least such position from p0 on, or -4 -/
def zHit (g : Nat → Int32) (sz : Nat) (s : Nat → Int32) (k p : Nat) : Prop := p + k ≤ sz ∧ ∀ a, a < k → g (p + a) = s a
def zFnd (g : Nat → Int32) (sz : Nat) (s : Nat → Int32) (k p0 : Nat) (r : Int32) : Prop := (∃ p, p0 ≤ p ∧ zHit g sz s k p ∧ r = nI p ∧ ∀ p', p0 ≤ p' → p' < p → ¬ zHit g sz s k p') ∨ (r = -4 ∧ ∀ p', p0 ≤ p' → ¬ zHit g sz s k p')
theorem zHit_iff {g : Nat → Int32} {sz : Nat} {s : Nat → Int32} {k p : Nat} (hk : 0 < k) : zHit g sz s k p ↔ ∀ a, a < k → p + a < sz ∧ g (p + a) = s a := by
  constructor
  · intro h a ha
    exact ⟨by have := h.1; omega, h.2 a ha⟩
  · intro h
    have := (h (k - 1) (by omega)).1
    exact ⟨by omega, fun a ha => (h a ha).2⟩
theorem zFnd_one {g : Nat → Int32} {sz : Nat} {s : Nat → Int32} {k p0 : Nat} {r r' : Int32} (h : zFnd g sz s k p0 r) (h' : zFnd g sz s k p0 r') : r = r' := by
  rcases h with ⟨p, h1, h2, rfl, h3⟩ | ⟨rfl, h3⟩ <;> rcases h' with ⟨p', h1', h2', rfl, h3'⟩ | ⟨rfl, h3'⟩
  · by_cases ha : p < p'
    · exact absurd h2 (h3' p h1 ha)
    · by_cases hb : p' < p
      · exact absurd h2' (h3 p' h1' hb)
      · rw [show p = p' by omega]
  · exact absurd h2 (h3' p h1)
  · exact absurd h2' (h3 p' h1')
  · rfl

set_option maxRecDepth 100000 in
set_option maxHeartbeats 4000000 in
theorem c_O_find_y {l : Launch} {D : va_G} {cI cC cZ cV : ClassId} {N : Nat} {q : Nat → Nat} {f : zF} (hN : 23 ≤ N) {n po th sz ty : Nat} (h10 : f 10 = zmo q n po th sz ty) {tx : Nat → Int32} (h17 : f 17 = .inl (cC, 2000, .inl tx)) {sc : Nat → Int32} (h19 : f 19 = .inl (cC, 40, .inl sc)) {p0 : Nat} (hp : p0 ≤ sz) (hs : sz ≤ 2000) (ht : ty ≤ 40) (ht0 : 0 < ty) : zC l y_O_find b_O_find 3 (some .int) (rmD 1 0 0) D (zty cI cC cZ cV) [.ref (q 10), .int (nI p0)] N q f (pI N q (fun r f' => f' = f ∧ zFnd tx sz sc ty p0 r)) := by
  refine zC.of (by decide) (by simp [Value.category]) (Nat.le_of_ble_eq_true rfl) (fun G X Y => ?_)
  show G 0 0 0 [some (.ref (q 10)), some (.int (nI p0)), none] [] N q f
  have loop : ∀ (d i : Nat), i + d = sz → p0 ≤ i → (∀ p', p0 ≤ p' → p' < i → ¬ zHit tx sz sc ty p') → G 0 0 22 [some (.ref (q 10)), some (.int (nI p0)), some (.int (nI i))] [] N q f := by
    intro d
    induction d with
    | zero =>
      intro i hi hp hk
      show G 0 0 22 [some (.ref (q 10)), some (.int (nI p0)), some (.int (nI i))] [] N q f
      refine zr_iload_n X d_O_find_22 rfl ?_
      refine zr_aload_n X d_O_find_23 rfl ?_
      refine zr_get X F_O_55 d_O_find_24 (by omega) h10 (v := .int (nI sz)) rfl ?_
      refine zr_icmp_get (tgt := 46) X d_O_find_27 rfl (nI_le (by omega) (by omega)) ?_
      refine zr_bipush (v := (-4)) X d_O_find_46 (by decide) ?_
      refine zr_ireturn Y d_O_find_48 rfl (Nat.le_of_ble_eq_true rfl) (Nat.le_of_ble_eq_true rfl) ?_
      refine ⟨_, rfl, rfl, rfl, rfl, Or.inr ⟨rfl, fun p9 hp9 h9 => ?_⟩⟩
      by_cases h8 : p9 < i
      · exact hk p9 hp9 h8 h9
      · have := h9.1
        omega
    | succ d ih =>
      intro i hi hp hk
      show G 0 0 22 [some (.ref (q 10)), some (.int (nI p0)), some (.int (nI i))] [] N q f
      refine zr_iload_n X d_O_find_22 rfl ?_
      refine zr_aload_n X d_O_find_23 rfl ?_
      refine zr_get X F_O_55 d_O_find_24 (by omega) h10 (v := .int (nI sz)) rfl ?_
      refine zr_icmp_gef (tgt := 46) X d_O_find_27 rfl (nI_ge (by omega) (by omega)) ?_
      refine zr_aload_n X d_O_find_30 rfl ?_
      refine zr_iload_n X d_O_find_31 rfl ?_
      refine zr_callV X K_O_106 KI_O_106 KS_O_106 (c_O_isScratch hN h10 h17 h19 (by omega) hs ht) d_O_find_32 (by omega) h10 rfl rfl (by decide) (Nat.le_of_ble_eq_true rfl) (by decide) (st := []) rfl (kI fun r1 f1 h1 => ?_)
      show G 0 0 35 [some (.ref (q 10)), some (.int (nI p0)), some (.int (nI i))] [.int r1] N q f1
      obtain ⟨e1, h8⟩ := h1
      rw [e1]
      rcases h8 with ⟨rfl, h8⟩ | ⟨rfl, a, ha, h8⟩
      · skip
        show G 0 0 35 [some (.ref (q 10)), some (.int (nI p0)), some (.int (nI i))] [.int (nI 1)] N q f
        refine zr_if_eqf (tgt := 40) X d_O_find_35 rfl (by decide) ?_
        refine zr_iload_n X d_O_find_38 rfl ?_
        refine zr_ireturn Y d_O_find_39 rfl (Nat.le_of_ble_eq_true rfl) (Nat.le_of_ble_eq_true rfl) ?_
        exact ⟨_, rfl, rfl, rfl, rfl, Or.inl ⟨i, by omega, (zHit_iff ht0).mpr h8, rfl, hk⟩⟩
      · skip
        show G 0 0 35 [some (.ref (q 10)), some (.int (nI p0)), some (.int (nI i))] [.int (nI 0)] N q f
        refine zr_if_eqt (tgt := 40) X d_O_find_35 rfl (by decide) ?_
        refine zr_iinc (v := nI (i + 1)) (lv' := [some (.ref (q 10)), some (.int (nI p0)), some (.int (nI (i + 1)))]) X d_O_find_40 rfl (nI_1 _) (by decide) rfl ?_
        refine zr_goto (tgt := 22) X d_O_find_43 rfl ?_
        refine ih (i + 1) (by omega) (by omega) (fun p9 h5 h6 h7 => ?_)
        by_cases h4 : p9 < i
        · exact hk p9 h5 h4 h7
        · exact h8 (show _ from by rw [show i = p9 by omega]; exact (zHit_iff ht0).mp h7 a ha)
  refine zr_aload_n X d_O_find_0 rfl ?_
  refine zr_iload_n X d_O_find_1 rfl ?_
  refine zr_callV X K_O_79 KI_O_79 KS_O_79 (c_O_isPosition_y hN h10 (by omega) hp) d_O_find_2 (by omega) h10 rfl rfl (by decide) (Nat.le_of_ble_eq_true rfl) (by decide) (st := []) rfl (kRd ?_)
  show G 0 0 5 [some (.ref (q 10)), some (.int (nI p0)), none] [.int (nI 1)] N q f
  refine zr_if_net (tgt := 10) X d_O_find_5 rfl (by decide) ?_
  refine zr_aload_n X d_O_find_10 rfl ?_
  refine zr_get X F_O_52 d_O_find_11 (by omega) h10 (v := .int (nI ty)) rfl ?_
  refine zr_if_net (tgt := 20) X d_O_find_14 rfl (nI_ne0 ht0 (by omega)) ?_
  refine zr_iload_n X d_O_find_20 rfl ?_
  refine zr_istore_n (lv' := [some (.ref (q 10)), some (.int (nI p0)), some (.int (nI p0))]) X d_O_find_21 (by decide) rfl ?_
  exact loop (sz - p0) p0 (by omega) (Nat.le_refl _) (fun p' h1 h2 => absurd h2 (by omega))

set_option maxRecDepth 100000 in
set_option maxHeartbeats 4000000 in
theorem c_O_find_n {l : Launch} {D : va_G} {cI cC cZ cV : ClassId} {N : Nat} {q : Nat → Nat} {f : zF} (hN : 23 ≤ N) {n po th sz ty : Nat} (h10 : f 10 = zmo q n po th sz ty) {x : Int32} (hx : zNo x sz) : zC l y_O_find b_O_find 3 (some .int) (rmD 1 0 0) D (zty cI cC cZ cV) [.ref (q 10), .int x] N q f (pRd N q f (-1)) := by
  refine zC.of (by decide) (by simp [Value.category]) (Nat.le_of_ble_eq_true rfl) (fun G X Y => ?_)
  show G 0 0 0 [some (.ref (q 10)), some (.int x), none] [] N q f
  refine zr_aload_n X d_O_find_0 rfl ?_
  refine zr_iload_n X d_O_find_1 rfl ?_
  refine zr_callV X K_O_79 KI_O_79 KS_O_79 (c_O_isPosition_n hN h10 hx) d_O_find_2 (by omega) h10 rfl rfl (by decide) (Nat.le_of_ble_eq_true rfl) (by decide) (st := []) rfl (kRd ?_)
  show G 0 0 5 [some (.ref (q 10)), some (.int x), none] [.int (nI 0)] N q f
  refine zr_if_nef (tgt := 10) X d_O_find_5 rfl (by decide) ?_
  refine zr_iconst (v := (-1)) X d_O_find_8 (by decide) ?_
  refine zr_ireturn Y d_O_find_9 rfl (Nat.le_of_ble_eq_true rfl) (Nat.le_of_ble_eq_true rfl) ?_
  exact ⟨rfl, rfl, rfl, rfl⟩

set_option maxRecDepth 100000 in
set_option maxHeartbeats 4000000 in
theorem c_O_find_e {l : Launch} {D : va_G} {cI cC cZ cV : ClassId} {N : Nat} {q : Nat → Nat} {f : zF} (hN : 23 ≤ N) {n po th sz ty : Nat} (h10 : f 10 = zmo q n po th sz ty) {p0 : Nat} (hp : p0 ≤ sz) (hs : sz ≤ 2000) (ht0 : ty = 0) : zC l y_O_find b_O_find 3 (some .int) (rmD 1 0 0) D (zty cI cC cZ cV) [.ref (q 10), .int (nI p0)] N q f (pRd N q f (-2)) := by
  refine zC.of (by decide) (by simp [Value.category]) (Nat.le_of_ble_eq_true rfl) (fun G X Y => ?_)
  show G 0 0 0 [some (.ref (q 10)), some (.int (nI p0)), none] [] N q f
  refine zr_aload_n X d_O_find_0 rfl ?_
  refine zr_iload_n X d_O_find_1 rfl ?_
  refine zr_callV X K_O_79 KI_O_79 KS_O_79 (c_O_isPosition_y hN h10 (by omega) hp) d_O_find_2 (by omega) h10 rfl rfl (by decide) (Nat.le_of_ble_eq_true rfl) (by decide) (st := []) rfl (kRd ?_)
  show G 0 0 5 [some (.ref (q 10)), some (.int (nI p0)), none] [.int (nI 1)] N q f
  refine zr_if_net (tgt := 10) X d_O_find_5 rfl (by decide) ?_
  refine zr_aload_n X d_O_find_10 rfl ?_
  refine zr_get X F_O_52 d_O_find_11 (by omega) h10 (v := .int (nI ty)) rfl ?_
  refine zr_if_nef (tgt := 20) X d_O_find_14 rfl (by rw [ht0]; rfl) ?_
  refine zr_bipush (v := (-2)) X d_O_find_17 (by decide) ?_
  refine zr_ireturn Y d_O_find_19 rfl (Nat.le_of_ble_eq_true rfl) (Nat.le_of_ble_eq_true rfl) ?_
  exact ⟨rfl, rfl, rfl, rfl⟩

set_option maxRecDepth 100000 in
set_option maxHeartbeats 4000000 in
theorem c_O_mark_y {l : Launch} {D : va_G} {cI cC cZ cV : ClassId} {N : Nat} {q : Nat → Nat} {f : zF} (hN : 23 ≤ N) {n po th sz ty : Nat} (h10 : f 10 = zmo q n po th sz ty) {iset : Nat → Int32} (h20 : f 20 = .inl (cZ, 6, .inl iset)) {ma : Nat → Int32} (h21 : f 21 = .inl (cI, 6, .inl ma)) {mr : Nat → Int32} (h22 : f 22 = .inl (cZ, 6, .inl mr)) {m p : Nat} {r : Int32} (hm : m < 6) (hp : p ≤ sz) (hs : sz ≤ 2000) (hr : vp_nar .boolean r = r) : zC l y_O_mark b_O_mark 4 (some .boolean) (rmD 1 0 0) D (zty cI cC cZ cV) [.ref (q 10), .int (nI m), .int (nI p), .int r] N q f (fun v N' q' f' => v = some (.int (nI 1)) ∧ N' = N ∧ q' = q ∧ f' = va_up (va_up (va_up f 20 (.inl (cZ, 6, .inl (upd iset m (nI 1))))) 21 (.inl (cI, 6, .inl (upd ma m (nI p))))) 22 (.inl (cZ, 6, .inl (upd mr m r)))) := by
  refine zC.of (by decide) (by simp [Value.category]) (Nat.le_of_ble_eq_true rfl) (fun G X Y => ?_)
  show G 0 0 0 [some (.ref (q 10)), some (.int (nI m)), some (.int (nI p)), some (.int r)] [] N q f
  refine zr_iload_n X d_O_mark_0 rfl ?_
  refine zr_if_ltf (tgt := 17) X d_O_mark_1 rfl (nI_pos (by omega)) ?_
  refine zr_iload_n X d_O_mark_4 rfl ?_
  refine zr_iconst (v := nI 5) X d_O_mark_5 (by decide) ?_
  refine zr_icmp_gtf (tgt := 17) X d_O_mark_6 rfl (nI_nlt (by omega) (by decide)) ?_
  refine zr_aload_n X d_O_mark_9 rfl ?_
  refine zr_iload_n X d_O_mark_10 rfl ?_
  refine zr_callV X K_O_79 KI_O_79 KS_O_79 (c_O_isPosition_y hN h10 (by omega) hp) d_O_mark_11 (by omega) h10 rfl rfl (by decide) (Nat.le_of_ble_eq_true rfl) (by decide) (st := []) rfl (kRd ?_)
  show G 0 0 14 [some (.ref (q 10)), some (.int (nI m)), some (.int (nI p)), some (.int r)] [.int (nI 1)] N q f
  refine zr_if_net (tgt := 19) X d_O_mark_14 rfl (by decide) ?_
  refine zr_aload_n X d_O_mark_19 rfl ?_
  refine zr_get X F_O_43 d_O_mark_20 (by omega) h10 (v := .ref (q 20)) rfl ?_
  refine zr_iload_n X d_O_mark_23 rfl ?_
  refine zr_iconst (v := nI 1) X d_O_mark_24 (by decide) ?_
  refine zr_bastore X 2 d_O_mark_25 (by omega) h20 rfl (by omega) (by decide) (by decide) ?_
  refine zr_aload_n X d_O_mark_26 rfl ?_
  refine zr_get X F_O_46 d_O_mark_27 (by omega) (up_ne (by decide) h10) (v := .ref (q 21)) rfl ?_
  refine zr_iload_n X d_O_mark_30 rfl ?_
  refine zr_iload_n X d_O_mark_31 rfl ?_
  refine zr_iastore X 0 d_O_mark_32 (by omega) (up_ne (by decide) h21) rfl (by omega) (by decide) ?_
  refine zr_aload_n X d_O_mark_33 rfl ?_
  refine zr_get X F_O_49 d_O_mark_34 (by omega) (up_ne (by decide) (up_ne (by decide) h10)) (v := .ref (q 22)) rfl ?_
  refine zr_iload_n X d_O_mark_37 rfl ?_
  refine zr_iload_n X d_O_mark_38 rfl ?_
  refine zr_bastore X 2 d_O_mark_39 (by omega) (up_ne (by decide) (up_ne (by decide) h22)) rfl (by omega) (by decide) hr ?_
  refine zr_iconst (v := nI 1) X d_O_mark_40 (by decide) ?_
  refine zr_ireturn Y d_O_mark_41 rfl (Nat.le_of_ble_eq_true rfl) (Nat.le_of_ble_eq_true rfl) ?_
  exact ⟨rfl, rfl, rfl, rfl⟩

set_option maxRecDepth 100000 in
set_option maxHeartbeats 4000000 in
theorem c_O_mark_n1 {l : Launch} {D : va_G} {cI cC cZ cV : ClassId} {N : Nat} {q : Nat → Nat} {f : zF} (hN : 23 ≤ N) {n po th sz ty : Nat} (h10 : f 10 = zmo q n po th sz ty) {x y r : Int32} (hx : zNo x 5) : zC l y_O_mark b_O_mark 4 (some .boolean) (rmD 1 0 0) D (zty cI cC cZ cV) [.ref (q 10), .int x, .int y, .int r] N q f (pRd N q f (nI 0)) := by
  refine zC.of (by decide) (by simp [Value.category]) (Nat.le_of_ble_eq_true rfl) (fun G X Y => ?_)
  show G 0 0 0 [some (.ref (q 10)), some (.int x), some (.int y), some (.int r)] [] N q f
  refine zr_iload_n X d_O_mark_0 rfl ?_
  refine zr_if_lt (tgt := 17) X d_O_mark_1 rfl (fun h1 => ?_) (fun h1 => ?_)
  · skip
    refine zr_iconst (v := nI 0) X d_O_mark_17 (by decide) ?_
    refine zr_ireturn Y d_O_mark_18 rfl (Nat.le_of_ble_eq_true rfl) (Nat.le_of_ble_eq_true rfl) ?_
    exact ⟨rfl, rfl, rfl, rfl⟩
  · skip
    refine zr_iload_n X d_O_mark_4 rfl ?_
    refine zr_iconst (v := nI 5) X d_O_mark_5 (by decide) ?_
    refine zr_icmp_gtt (tgt := 17) X d_O_mark_6 rfl (hx.resolve_left h1) ?_
    refine zr_iconst (v := nI 0) X d_O_mark_17 (by decide) ?_
    refine zr_ireturn Y d_O_mark_18 rfl (Nat.le_of_ble_eq_true rfl) (Nat.le_of_ble_eq_true rfl) ?_
    exact ⟨rfl, rfl, rfl, rfl⟩

set_option maxRecDepth 100000 in
set_option maxHeartbeats 4000000 in
theorem c_O_mark_n2 {l : Launch} {D : va_G} {cI cC cZ cV : ClassId} {N : Nat} {q : Nat → Nat} {f : zF} (hN : 23 ≤ N) {n po th sz ty : Nat} (h10 : f 10 = zmo q n po th sz ty) {m : Nat} {y r : Int32} (hm : m < 6) (hy : zNo y sz) : zC l y_O_mark b_O_mark 4 (some .boolean) (rmD 1 0 0) D (zty cI cC cZ cV) [.ref (q 10), .int (nI m), .int y, .int r] N q f (pRd N q f (nI 0)) := by
  refine zC.of (by decide) (by simp [Value.category]) (Nat.le_of_ble_eq_true rfl) (fun G X Y => ?_)
  show G 0 0 0 [some (.ref (q 10)), some (.int (nI m)), some (.int y), some (.int r)] [] N q f
  refine zr_iload_n X d_O_mark_0 rfl ?_
  refine zr_if_ltf (tgt := 17) X d_O_mark_1 rfl (nI_pos (by omega)) ?_
  refine zr_iload_n X d_O_mark_4 rfl ?_
  refine zr_iconst (v := nI 5) X d_O_mark_5 (by decide) ?_
  refine zr_icmp_gtf (tgt := 17) X d_O_mark_6 rfl (nI_nlt (by omega) (by decide)) ?_
  refine zr_aload_n X d_O_mark_9 rfl ?_
  refine zr_iload_n X d_O_mark_10 rfl ?_
  refine zr_callV X K_O_79 KI_O_79 KS_O_79 (c_O_isPosition_n hN h10 hy) d_O_mark_11 (by omega) h10 rfl rfl (by decide) (Nat.le_of_ble_eq_true rfl) (by decide) (st := []) rfl (kRd ?_)
  show G 0 0 14 [some (.ref (q 10)), some (.int (nI m)), some (.int y), some (.int r)] [.int (nI 0)] N q f
  refine zr_if_nef (tgt := 19) X d_O_mark_14 rfl (by decide) ?_
  refine zr_iconst (v := nI 0) X d_O_mark_17 (by decide) ?_
  refine zr_ireturn Y d_O_mark_18 rfl (Nat.le_of_ble_eq_true rfl) (Nat.le_of_ble_eq_true rfl) ?_
  exact ⟨rfl, rfl, rfl, rfl⟩

set_option maxRecDepth 100000 in
set_option maxHeartbeats 4000000 in
theorem c_O_unmark_y {l : Launch} {D : va_G} {cI cC cZ cV : ClassId} {N : Nat} {q : Nat → Nat} {f : zF} (hN : 23 ≤ N) {n po th sz ty : Nat} (h10 : f 10 = zmo q n po th sz ty) {iset : Nat → Int32} (h20 : f 20 = .inl (cZ, 6, .inl iset)) {m : Nat} (hm : m < 6) (hi : iset m = nI 1) : zC l y_O_unmark b_O_unmark 3 (some .boolean) (rmD 0 0 0) D (zty cI cC cZ cV) [.ref (q 10), .int (nI m)] N q f (fun v N' q' f' => v = some (.int (nI 1)) ∧ N' = N ∧ q' = q ∧ f' = va_up f 20 (.inl (cZ, 6, .inl (upd iset m (nI 0))))) := by
  refine zC.of (by decide) (by simp [Value.category]) (Nat.le_of_ble_eq_true rfl) (fun G X Y => ?_)
  show G 0 0 0 [some (.ref (q 10)), some (.int (nI m)), none] [] N q f
  refine zr_iload_n X d_O_unmark_0 rfl ?_
  refine zr_if_ltf (tgt := 22) X d_O_unmark_1 rfl (nI_pos (by omega)) ?_
  refine zr_iload_n X d_O_unmark_4 rfl ?_
  refine zr_iconst (v := nI 5) X d_O_unmark_5 (by decide) ?_
  refine zr_icmp_gtf (tgt := 22) X d_O_unmark_6 rfl (nI_nlt (by omega) (by decide)) ?_
  refine zr_aload_n X d_O_unmark_9 rfl ?_
  refine zr_get X F_O_43 d_O_unmark_10 (by omega) h10 (v := .ref (q 20)) rfl ?_
  refine zr_iload_n X d_O_unmark_13 rfl ?_
  refine zr_baload (v := nI 1) X 2 d_O_unmark_14 (by omega) h20 rfl (by omega) (by decide) hi ?_
  refine zr_if_eqf (tgt := 22) X d_O_unmark_15 rfl (by decide) ?_
  refine zr_iconst (v := nI 1) X d_O_unmark_18 (by decide) ?_
  refine zr_goto (tgt := 23) X d_O_unmark_19 rfl ?_
  refine zr_istore_n (lv' := [some (.ref (q 10)), some (.int (nI m)), some (.int (nI 1))]) X d_O_unmark_23 (by decide) rfl ?_
  refine zr_iload_n X d_O_unmark_24 rfl ?_
  refine zr_if_eqf (tgt := 35) X d_O_unmark_25 rfl (by decide) ?_
  refine zr_aload_n X d_O_unmark_28 rfl ?_
  refine zr_get X F_O_43 d_O_unmark_29 (by omega) h10 (v := .ref (q 20)) rfl ?_
  refine zr_iload_n X d_O_unmark_32 rfl ?_
  refine zr_iconst (v := nI 0) X d_O_unmark_33 (by decide) ?_
  refine zr_bastore X 2 d_O_unmark_34 (by omega) h20 rfl (by omega) (by decide) (by decide) ?_
  refine zr_iload_n X d_O_unmark_35 rfl ?_
  refine zr_ireturn Y d_O_unmark_36 rfl (Nat.le_of_ble_eq_true rfl) (Nat.le_of_ble_eq_true rfl) ?_
  exact ⟨rfl, rfl, rfl, rfl⟩

set_option maxRecDepth 100000 in
set_option maxHeartbeats 4000000 in
theorem c_O_unmark_0 {l : Launch} {D : va_G} {cI cC cZ cV : ClassId} {N : Nat} {q : Nat → Nat} {f : zF} (hN : 23 ≤ N) {n po th sz ty : Nat} (h10 : f 10 = zmo q n po th sz ty) {iset : Nat → Int32} (h20 : f 20 = .inl (cZ, 6, .inl iset)) {m : Nat} (hm : m < 6) (hi : iset m = nI 0) : zC l y_O_unmark b_O_unmark 3 (some .boolean) (rmD 0 0 0) D (zty cI cC cZ cV) [.ref (q 10), .int (nI m)] N q f (pRd N q f (nI 0)) := by
  refine zC.of (by decide) (by simp [Value.category]) (Nat.le_of_ble_eq_true rfl) (fun G X Y => ?_)
  show G 0 0 0 [some (.ref (q 10)), some (.int (nI m)), none] [] N q f
  refine zr_iload_n X d_O_unmark_0 rfl ?_
  refine zr_if_ltf (tgt := 22) X d_O_unmark_1 rfl (nI_pos (by omega)) ?_
  refine zr_iload_n X d_O_unmark_4 rfl ?_
  refine zr_iconst (v := nI 5) X d_O_unmark_5 (by decide) ?_
  refine zr_icmp_gtf (tgt := 22) X d_O_unmark_6 rfl (nI_nlt (by omega) (by decide)) ?_
  refine zr_aload_n X d_O_unmark_9 rfl ?_
  refine zr_get X F_O_43 d_O_unmark_10 (by omega) h10 (v := .ref (q 20)) rfl ?_
  refine zr_iload_n X d_O_unmark_13 rfl ?_
  refine zr_baload (v := nI 0) X 2 d_O_unmark_14 (by omega) h20 rfl (by omega) (by decide) hi ?_
  refine zr_if_eqt (tgt := 22) X d_O_unmark_15 rfl (by decide) ?_
  refine zr_iconst (v := nI 0) X d_O_unmark_22 (by decide) ?_
  refine zr_istore_n (lv' := [some (.ref (q 10)), some (.int (nI m)), some (.int (nI 0))]) X d_O_unmark_23 (by decide) rfl ?_
  refine zr_iload_n X d_O_unmark_24 rfl ?_
  refine zr_if_eqt (tgt := 35) X d_O_unmark_25 rfl (by decide) ?_
  refine zr_iload_n X d_O_unmark_35 rfl ?_
  refine zr_ireturn Y d_O_unmark_36 rfl (Nat.le_of_ble_eq_true rfl) (Nat.le_of_ble_eq_true rfl) ?_
  exact ⟨rfl, rfl, rfl, rfl⟩

set_option maxRecDepth 100000 in
set_option maxHeartbeats 4000000 in
theorem c_O_unmark_n {l : Launch} {D : va_G} {cI cC cZ cV : ClassId} {N : Nat} {q : Nat → Nat} {f : zF} (hN : 23 ≤ N) {n po th sz ty : Nat} (h10 : f 10 = zmo q n po th sz ty) {x : Int32} (hx : zNo x 5) : zC l y_O_unmark b_O_unmark 3 (some .boolean) (rmD 0 0 0) D (zty cI cC cZ cV) [.ref (q 10), .int x] N q f (pRd N q f (nI 0)) := by
  refine zC.of (by decide) (by simp [Value.category]) (Nat.le_of_ble_eq_true rfl) (fun G X Y => ?_)
  show G 0 0 0 [some (.ref (q 10)), some (.int x), none] [] N q f
  refine zr_iload_n X d_O_unmark_0 rfl ?_
  refine zr_if_lt (tgt := 22) X d_O_unmark_1 rfl (fun h1 => ?_) (fun h1 => ?_)
  · skip
    refine zr_iconst (v := nI 0) X d_O_unmark_22 (by decide) ?_
    refine zr_istore_n (lv' := [some (.ref (q 10)), some (.int x), some (.int (nI 0))]) X d_O_unmark_23 (by decide) rfl ?_
    refine zr_iload_n X d_O_unmark_24 rfl ?_
    refine zr_if_eqt (tgt := 35) X d_O_unmark_25 rfl (by decide) ?_
    refine zr_iload_n X d_O_unmark_35 rfl ?_
    refine zr_ireturn Y d_O_unmark_36 rfl (Nat.le_of_ble_eq_true rfl) (Nat.le_of_ble_eq_true rfl) ?_
    exact ⟨rfl, rfl, rfl, rfl⟩
  · skip
    refine zr_iload_n X d_O_unmark_4 rfl ?_
    refine zr_iconst (v := nI 5) X d_O_unmark_5 (by decide) ?_
    refine zr_icmp_gtt (tgt := 22) X d_O_unmark_6 rfl (hx.resolve_left h1) ?_
    refine zr_iconst (v := nI 0) X d_O_unmark_22 (by decide) ?_
    refine zr_istore_n (lv' := [some (.ref (q 10)), some (.int x), some (.int (nI 0))]) X d_O_unmark_23 (by decide) rfl ?_
    refine zr_iload_n X d_O_unmark_24 rfl ?_
    refine zr_if_eqt (tgt := 35) X d_O_unmark_25 rfl (by decide) ?_
    refine zr_iload_n X d_O_unmark_35 rfl ?_
    refine zr_ireturn Y d_O_unmark_36 rfl (Nat.le_of_ble_eq_true rfl) (Nat.le_of_ble_eq_true rfl) ?_
    exact ⟨rfl, rfl, rfl, rfl⟩

set_option maxRecDepth 100000 in
set_option maxHeartbeats 4000000 in
theorem c_O_where_y {l : Launch} {D : va_G} {cI cC cZ cV : ClassId} {N : Nat} {q : Nat → Nat} {f : zF} (hN : 23 ≤ N) {n po th sz ty : Nat} (h10 : f 10 = zmo q n po th sz ty) {iset : Nat → Int32} (h20 : f 20 = .inl (cZ, 6, .inl iset)) {ma : Nat → Int32} (h21 : f 21 = .inl (cI, 6, .inl ma)) {m : Nat} (hm : m < 6) (hi : iset m = nI 1) : zC l y_O_where b_O_where 2 (some .int) (rmD 0 0 0) D (zty cI cC cZ cV) [.ref (q 10), .int (nI m)] N q f (pRd N q f (ma m)) := by
  refine zC.of (by decide) (by simp [Value.category]) (Nat.le_of_ble_eq_true rfl) (fun G X Y => ?_)
  show G 0 0 0 [some (.ref (q 10)), some (.int (nI m))] [] N q f
  refine zr_iload_n X d_O_where_0 rfl ?_
  refine zr_if_ltf (tgt := 27) X d_O_where_1 rfl (nI_pos (by omega)) ?_
  refine zr_iload_n X d_O_where_4 rfl ?_
  refine zr_iconst (v := nI 5) X d_O_where_5 (by decide) ?_
  refine zr_icmp_gtf (tgt := 27) X d_O_where_6 rfl (nI_nlt (by omega) (by decide)) ?_
  refine zr_aload_n X d_O_where_9 rfl ?_
  refine zr_get X F_O_43 d_O_where_10 (by omega) h10 (v := .ref (q 20)) rfl ?_
  refine zr_iload_n X d_O_where_13 rfl ?_
  refine zr_baload (v := nI 1) X 2 d_O_where_14 (by omega) h20 rfl (by omega) (by decide) hi ?_
  refine zr_if_eqf (tgt := 27) X d_O_where_15 rfl (by decide) ?_
  refine zr_aload_n X d_O_where_18 rfl ?_
  refine zr_get X F_O_46 d_O_where_19 (by omega) h10 (v := .ref (q 21)) rfl ?_
  refine zr_iload_n X d_O_where_22 rfl ?_
  refine zr_iaload (v := ma m) X 0 d_O_where_23 (by omega) h21 rfl (by omega) (by decide) rfl ?_
  refine zr_goto (tgt := 28) X d_O_where_24 rfl ?_
  refine zr_ireturn Y d_O_where_28 rfl (Nat.le_of_ble_eq_true rfl) (Nat.le_of_ble_eq_true rfl) ?_
  exact ⟨rfl, rfl, rfl, rfl⟩

set_option maxRecDepth 100000 in
set_option maxHeartbeats 4000000 in
theorem c_O_where_0 {l : Launch} {D : va_G} {cI cC cZ cV : ClassId} {N : Nat} {q : Nat → Nat} {f : zF} (hN : 23 ≤ N) {n po th sz ty : Nat} (h10 : f 10 = zmo q n po th sz ty) {iset : Nat → Int32} (h20 : f 20 = .inl (cZ, 6, .inl iset)) {m : Nat} (hm : m < 6) (hi : iset m = nI 0) : zC l y_O_where b_O_where 2 (some .int) (rmD 0 0 0) D (zty cI cC cZ cV) [.ref (q 10), .int (nI m)] N q f (pRd N q f (-1)) := by
  refine zC.of (by decide) (by simp [Value.category]) (Nat.le_of_ble_eq_true rfl) (fun G X Y => ?_)
  show G 0 0 0 [some (.ref (q 10)), some (.int (nI m))] [] N q f
  refine zr_iload_n X d_O_where_0 rfl ?_
  refine zr_if_ltf (tgt := 27) X d_O_where_1 rfl (nI_pos (by omega)) ?_
  refine zr_iload_n X d_O_where_4 rfl ?_
  refine zr_iconst (v := nI 5) X d_O_where_5 (by decide) ?_
  refine zr_icmp_gtf (tgt := 27) X d_O_where_6 rfl (nI_nlt (by omega) (by decide)) ?_
  refine zr_aload_n X d_O_where_9 rfl ?_
  refine zr_get X F_O_43 d_O_where_10 (by omega) h10 (v := .ref (q 20)) rfl ?_
  refine zr_iload_n X d_O_where_13 rfl ?_
  refine zr_baload (v := nI 0) X 2 d_O_where_14 (by omega) h20 rfl (by omega) (by decide) hi ?_
  refine zr_if_eqt (tgt := 27) X d_O_where_15 rfl (by decide) ?_
  refine zr_iconst (v := (-1)) X d_O_where_27 (by decide) ?_
  refine zr_ireturn Y d_O_where_28 rfl (Nat.le_of_ble_eq_true rfl) (Nat.le_of_ble_eq_true rfl) ?_
  exact ⟨rfl, rfl, rfl, rfl⟩

set_option maxRecDepth 100000 in
set_option maxHeartbeats 4000000 in
theorem c_O_where_n {l : Launch} {D : va_G} {cI cC cZ cV : ClassId} {N : Nat} {q : Nat → Nat} {f : zF} (hN : 23 ≤ N) {n po th sz ty : Nat} (h10 : f 10 = zmo q n po th sz ty) {x : Int32} (hx : zNo x 5) : zC l y_O_where b_O_where 2 (some .int) (rmD 0 0 0) D (zty cI cC cZ cV) [.ref (q 10), .int x] N q f (pRd N q f (-1)) := by
  refine zC.of (by decide) (by simp [Value.category]) (Nat.le_of_ble_eq_true rfl) (fun G X Y => ?_)
  show G 0 0 0 [some (.ref (q 10)), some (.int x)] [] N q f
  refine zr_iload_n X d_O_where_0 rfl ?_
  refine zr_if_lt (tgt := 27) X d_O_where_1 rfl (fun h1 => ?_) (fun h1 => ?_)
  · skip
    refine zr_iconst (v := (-1)) X d_O_where_27 (by decide) ?_
    refine zr_ireturn Y d_O_where_28 rfl (Nat.le_of_ble_eq_true rfl) (Nat.le_of_ble_eq_true rfl) ?_
    exact ⟨rfl, rfl, rfl, rfl⟩
  · skip
    refine zr_iload_n X d_O_where_4 rfl ?_
    refine zr_iconst (v := nI 5) X d_O_where_5 (by decide) ?_
    refine zr_icmp_gtt (tgt := 27) X d_O_where_6 rfl (hx.resolve_left h1) ?_
    refine zr_iconst (v := (-1)) X d_O_where_27 (by decide) ?_
    refine zr_ireturn Y d_O_where_28 rfl (Nat.le_of_ble_eq_true rfl) (Nat.le_of_ble_eq_true rfl) ?_
    exact ⟨rfl, rfl, rfl, rfl⟩

/-- of the marks 5, 4, .. the one that the reference's loop has found after d of them -/
def znm (iset ma : Nat → Int32) (x : Int32) : Nat → Option Nat
  | 0 => none
  | d + 1 => match znm iset ma x d with
    | none => if iset (5 - d) = 0 then none else if ma (5 - d) < x then none else some (5 - d)
    | some b => if iset (5 - d) = 0 then some b else if ma (5 - d) < x then some b else if ma b < ma (5 - d) then some b else some (5 - d)

set_option maxRecDepth 100000 in
set_option maxHeartbeats 4000000 in
theorem c_O_nextMark_y {l : Launch} {D : va_G} {cI cC cZ cV : ClassId} {N : Nat} {q : Nat → Nat} {f : zF} (hN : 23 ≤ N) {n po th sz ty : Nat} (h10 : f 10 = zmo q n po th sz ty) {iset : Nat → Int32} (h20 : f 20 = .inl (cZ, 6, .inl iset)) {ma : Nat → Int32} (h21 : f 21 = .inl (cI, 6, .inl ma)) {p : Nat} (hp : p ≤ sz) (hs : sz ≤ 2000) {x : Int32} (hx : nI p = x) : zC l y_O_nextMark b_O_nextMark 5 (some .int) (rmD 1 0 0) D (zty cI cC cZ cV) [.ref (q 10), .int x] N q f (pRd N q f (zfi (znm iset ma x 6))) := by
  refine zC.of (by decide) (by simp [Value.category]) (Nat.le_of_ble_eq_true rfl) (fun G X Y => ?_)
  show G 0 0 0 [some (.ref (q 10)), some (.int x), none, none, none] [] N q f
  have loop : ∀ (i : Nat) (o : Option Nat) (w : Option Value), i ≤ 6 → o = znm iset ma x (6 - i) → (∀ b, o = some b → b < 6) → G 0 0 14 [some (.ref (q 10)), some (.int x), some (.int (zfi o)), some (.int (nI i - 1)), w] [] N q f := by
    intro i
    induction i with
    | zero =>
      intro o w hi ho hb
      show G 0 0 14 [some (.ref (q 10)), some (.int x), some (.int (zfi o)), some (.int (nI 0 - 1)), w] [] N q f
      refine zr_iload_n X d_O_nextMark_14 rfl ?_
      refine zr_if_ltt (tgt := 80) X d_O_nextMark_15 rfl (by decide) ?_
      refine zr_iload_n X d_O_nextMark_80 rfl ?_
      refine zr_ireturn Y d_O_nextMark_81 rfl (Nat.le_of_ble_eq_true rfl) (Nat.le_of_ble_eq_true rfl) ?_
      exact ⟨by rw [ho], rfl, rfl, rfl⟩
    | succ i ih =>
      intro o w hi ho hb
      rw [nI_pred i]
      have hz : znm iset ma x (6 - i) = match znm iset ma x (6 - (i + 1)) with | none => if iset (5 - (6 - (i + 1))) = 0 then none else if ma (5 - (6 - (i + 1))) < x then none else some (5 - (6 - (i + 1))) | some b => if iset (5 - (6 - (i + 1))) = 0 then some b else if ma (5 - (6 - (i + 1))) < x then some b else if ma b < ma (5 - (6 - (i + 1))) then some b else some (5 - (6 - (i + 1))) := by rw [show 6 - i = (6 - (i + 1)) + 1 by omega]; rfl
      rw [← ho, show 5 - (6 - (i + 1)) = i by omega] at hz
      show G 0 0 14 [some (.ref (q 10)), some (.int x), some (.int (zfi o)), some (.int (nI i)), w] [] N q f
      refine zr_iload_n X d_O_nextMark_14 rfl ?_
      refine zr_if_ltf (tgt := 80) X d_O_nextMark_15 rfl (nI_pos (by omega)) ?_
      refine zr_aload_n X d_O_nextMark_18 rfl ?_
      refine zr_get X F_O_43 d_O_nextMark_19 (by omega) h10 (v := .ref (q 20)) rfl ?_
      refine zr_iload_n X d_O_nextMark_22 rfl ?_
      refine zr_baload (v := iset i) X 2 d_O_nextMark_23 (by omega) h20 rfl (by omega) (by decide) rfl ?_
      refine zr_if_eq (tgt := 41) X d_O_nextMark_24 rfl (fun h24 => ?_) (fun h24 => ?_)
      · skip
        refine zr_iconst (v := nI 0) X d_O_nextMark_41 (by decide) ?_
        refine zr_istore (lv' := [some (.ref (q 10)), some (.int x), some (.int (zfi o)), some (.int (nI i)), some (.int (nI 0))]) X d_O_nextMark_42 (by decide) rfl ?_
        refine zr_iload X d_O_nextMark_44 rfl ?_
        refine zr_if_eqt (tgt := 72) X d_O_nextMark_46 rfl (by decide) ?_
        refine zr_iload_n X d_O_nextMark_72 rfl ?_
        refine zr_istore_n (lv' := [some (.ref (q 10)), some (.int x), some (.int (zfi o)), some (.int (nI i)), some (.int (nI 0))]) X d_O_nextMark_73 (by decide) rfl ?_
        refine zr_iinc (v := nI i - 1) (lv' := [some (.ref (q 10)), some (.int x), some (.int (zfi o)), some (.int (nI i - 1)), some (.int (nI 0))]) X d_O_nextMark_74 rfl (z_dec _) (by decide) rfl ?_
        refine zr_goto (tgt := 14) X d_O_nextMark_77 rfl ?_
        exact ih o _ (by omega) (by rw [hz]; cases o <;> simp [h24]) hb
      · skip
        refine zr_aload_n X d_O_nextMark_27 rfl ?_
        refine zr_get X F_O_46 d_O_nextMark_28 (by omega) h10 (v := .ref (q 21)) rfl ?_
        refine zr_iload_n X d_O_nextMark_31 rfl ?_
        refine zr_iaload (v := ma i) X 0 d_O_nextMark_32 (by omega) h21 rfl (by omega) (by decide) rfl ?_
        refine zr_iload_n X d_O_nextMark_33 rfl ?_
        refine zr_icmp_lt (tgt := 41) X d_O_nextMark_34 rfl (fun h34 => ?_) (fun h34 => ?_)
        · skip
          refine zr_iconst (v := nI 0) X d_O_nextMark_41 (by decide) ?_
          refine zr_istore (lv' := [some (.ref (q 10)), some (.int x), some (.int (zfi o)), some (.int (nI i)), some (.int (nI 0))]) X d_O_nextMark_42 (by decide) rfl ?_
          refine zr_iload X d_O_nextMark_44 rfl ?_
          refine zr_if_eqt (tgt := 72) X d_O_nextMark_46 rfl (by decide) ?_
          refine zr_iload_n X d_O_nextMark_72 rfl ?_
          refine zr_istore_n (lv' := [some (.ref (q 10)), some (.int x), some (.int (zfi o)), some (.int (nI i)), some (.int (nI 0))]) X d_O_nextMark_73 (by decide) rfl ?_
          refine zr_iinc (v := nI i - 1) (lv' := [some (.ref (q 10)), some (.int x), some (.int (zfi o)), some (.int (nI i - 1)), some (.int (nI 0))]) X d_O_nextMark_74 rfl (z_dec _) (by decide) rfl ?_
          refine zr_goto (tgt := 14) X d_O_nextMark_77 rfl ?_
          exact ih o _ (by omega) (by rw [hz]; cases o <;> simp [h24, h34]) hb
        · skip
          refine zr_iconst (v := nI 1) X d_O_nextMark_37 (by decide) ?_
          refine zr_goto (tgt := 42) X d_O_nextMark_38 rfl ?_
          refine zr_istore (lv' := [some (.ref (q 10)), some (.int x), some (.int (zfi o)), some (.int (nI i)), some (.int (nI 1))]) X d_O_nextMark_42 (by decide) rfl ?_
          refine zr_iload X d_O_nextMark_44 rfl ?_
          refine zr_if_eqf (tgt := 72) X d_O_nextMark_46 rfl (by decide) ?_
          cases o with
          | none =>
            show G 0 0 49 [some (.ref (q 10)), some (.int x), some (.int (-1)), some (.int (nI i)), some (.int (nI 1))] [] N q f
            refine zr_iload_n X d_O_nextMark_49 rfl ?_
            refine zr_if_ltt (tgt := 68) X d_O_nextMark_50 rfl (by decide) ?_
            refine zr_iload_n X d_O_nextMark_68 rfl ?_
            refine zr_goto (tgt := 73) X d_O_nextMark_69 rfl ?_
            refine zr_istore_n (lv' := [some (.ref (q 10)), some (.int x), some (.int (nI i)), some (.int (nI i)), some (.int (nI 1))]) X d_O_nextMark_73 (by decide) rfl ?_
            refine zr_iinc (v := nI i - 1) (lv' := [some (.ref (q 10)), some (.int x), some (.int (nI i)), some (.int (nI i - 1)), some (.int (nI 1))]) X d_O_nextMark_74 rfl (z_dec _) (by decide) rfl ?_
            refine zr_goto (tgt := 14) X d_O_nextMark_77 rfl ?_
            exact ih (some i) _ (by omega) (by rw [hz]; simp [h24, h34]) (fun b h => by cases h; omega)
          | some b =>
            have hb6 : b < 6 := hb b rfl
            show G 0 0 49 [some (.ref (q 10)), some (.int x), some (.int (nI b)), some (.int (nI i)), some (.int (nI 1))] [] N q f
            refine zr_iload_n X d_O_nextMark_49 rfl ?_
            refine zr_if_ltf (tgt := 68) X d_O_nextMark_50 rfl (nI_pos (by omega)) ?_
            refine zr_aload_n X d_O_nextMark_53 rfl ?_
            refine zr_get X F_O_46 d_O_nextMark_54 (by omega) h10 (v := .ref (q 21)) rfl ?_
            refine zr_iload_n X d_O_nextMark_57 rfl ?_
            refine zr_iaload (v := ma i) X 0 d_O_nextMark_58 (by omega) h21 rfl (by omega) (by decide) rfl ?_
            refine zr_aload_n X d_O_nextMark_59 rfl ?_
            refine zr_get X F_O_46 d_O_nextMark_60 (by omega) h10 (v := .ref (q 21)) rfl ?_
            refine zr_iload_n X d_O_nextMark_63 rfl ?_
            refine zr_iaload (v := ma b) X 0 d_O_nextMark_64 (by omega) h21 rfl (by omega) (by decide) rfl ?_
            refine zr_icmp_gt (tgt := 72) X d_O_nextMark_65 rfl (fun h65 => ?_) (fun h65 => ?_)
            · skip
              refine zr_iload_n X d_O_nextMark_72 rfl ?_
              refine zr_istore_n (lv' := [some (.ref (q 10)), some (.int x), some (.int (nI b)), some (.int (nI i)), some (.int (nI 1))]) X d_O_nextMark_73 (by decide) rfl ?_
              refine zr_iinc (v := nI i - 1) (lv' := [some (.ref (q 10)), some (.int x), some (.int (nI b)), some (.int (nI i - 1)), some (.int (nI 1))]) X d_O_nextMark_74 rfl (z_dec _) (by decide) rfl ?_
              refine zr_goto (tgt := 14) X d_O_nextMark_77 rfl ?_
              exact ih (some b) _ (by omega) (by rw [hz]; simp [h24, h34, h65]) hb
            · skip
              refine zr_iload_n X d_O_nextMark_68 rfl ?_
              refine zr_goto (tgt := 73) X d_O_nextMark_69 rfl ?_
              refine zr_istore_n (lv' := [some (.ref (q 10)), some (.int x), some (.int (nI i)), some (.int (nI i)), some (.int (nI 1))]) X d_O_nextMark_73 (by decide) rfl ?_
              refine zr_iinc (v := nI i - 1) (lv' := [some (.ref (q 10)), some (.int x), some (.int (nI i)), some (.int (nI i - 1)), some (.int (nI 1))]) X d_O_nextMark_74 rfl (z_dec _) (by decide) rfl ?_
              refine zr_goto (tgt := 14) X d_O_nextMark_77 rfl ?_
              exact ih (some i) _ (by omega) (by rw [hz]; simp [h24, h34, h65]) (fun b h => by cases h; omega)
  refine zr_aload_n X d_O_nextMark_0 rfl ?_
  refine zr_iload_n X d_O_nextMark_1 rfl ?_
  refine zr_callV X K_O_79 KI_O_79 KS_O_79 (hx ▸ c_O_isPosition_y hN h10 (by omega) hp) d_O_nextMark_2 (by omega) h10 rfl rfl (by decide) (Nat.le_of_ble_eq_true rfl) (by decide) (st := []) rfl (kRd ?_)
  show G 0 0 5 [some (.ref (q 10)), some (.int x), none, none, none] [.int (nI 1)] N q f
  refine zr_if_net (tgt := 10) X d_O_nextMark_5 rfl (by decide) ?_
  refine zr_iconst (v := (-1)) X d_O_nextMark_10 (by decide) ?_
  refine zr_istore_n (lv' := [some (.ref (q 10)), some (.int x), some (.int ((-1))), none, none]) X d_O_nextMark_11 (by decide) rfl ?_
  refine zr_iconst (v := nI 6 - 1) X d_O_nextMark_12 (by decide) ?_
  refine zr_istore_n (lv' := [some (.ref (q 10)), some (.int x), some (.int ((-1))), some (.int (nI 6 - 1)), none]) X d_O_nextMark_13 (by decide) rfl ?_
  exact loop 6 none none (by omega) rfl (fun b h => by cases h)

set_option maxRecDepth 100000 in
set_option maxHeartbeats 4000000 in
theorem c_O_nextMark_n {l : Launch} {D : va_G} {cI cC cZ cV : ClassId} {N : Nat} {q : Nat → Nat} {f : zF} (hN : 23 ≤ N) {n po th sz ty : Nat} (h10 : f 10 = zmo q n po th sz ty) {x : Int32} (hx : zNo x sz) : zC l y_O_nextMark b_O_nextMark 5 (some .int) (rmD 1 0 0) D (zty cI cC cZ cV) [.ref (q 10), .int x] N q f (pRd N q f (-1)) := by
  refine zC.of (by decide) (by simp [Value.category]) (Nat.le_of_ble_eq_true rfl) (fun G X Y => ?_)
  show G 0 0 0 [some (.ref (q 10)), some (.int x), none, none, none] [] N q f
  refine zr_aload_n X d_O_nextMark_0 rfl ?_
  refine zr_iload_n X d_O_nextMark_1 rfl ?_
  refine zr_callV X K_O_79 KI_O_79 KS_O_79 (c_O_isPosition_n hN h10 hx) d_O_nextMark_2 (by omega) h10 rfl rfl (by decide) (Nat.le_of_ble_eq_true rfl) (by decide) (st := []) rfl (kRd ?_)
  show G 0 0 5 [some (.ref (q 10)), some (.int x), none, none, none] [.int (nI 0)] N q f
  refine zr_if_nef (tgt := 10) X d_O_nextMark_5 rfl (by decide) ?_
  refine zr_iconst (v := (-1)) X d_O_nextMark_8 (by decide) ?_
  refine zr_ireturn Y d_O_nextMark_9 rfl (Nat.le_of_ble_eq_true rfl) (Nat.le_of_ble_eq_true rfl) ?_
  exact ⟨rfl, rfl, rfl, rfl⟩
