/-- the reference's own cell -/
abbrev zmo (q : Nat → Nat) (n po th sz ty : Nat) : va_E := .inr (iO, [.int (nI n), .ref (q 11), .ref (q 12), .ref (q 13), .ref (q 14), .ref (q 15), .int (nI po), .ref (q 16), .int (nI th), .int (nI sz), .ref (q 17), .ref (q 18), .int (nI ty), .ref (q 19), .ref (q 20), .ref (q 21), .ref (q 22)])

/-- x is a character that the scratch takes -/
def zIsCh (x : Int32) : Prop := x = 10 ∨ (¬ x < 32 ∧ ¬ 126 < x)
theorem z_charR {x : Int32} (h : fits .char (.int x) = true) : narrow .char (.int x) = .int x := by
  have h1 := z_charN h
  show Value.int (vp_nar .char x) = .int x
  rw [h1]
theorem cpy_up {f g : Nat → Int32} {sp dp k : Nat} : upd (va_cpy f g sp dp k) (dp + k) (f (sp + k)) = va_cpy f g sp dp (k + 1) := by
  funext m
  unfold upd va_cpy
  by_cases h1 : m = dp + k
  · subst h1
    rw [if_pos rfl, if_pos (by omega), show dp + k - dp = k by omega]
  · rw [if_neg h1]
    by_cases h2 : dp ≤ m ∧ m < dp + k
    · rw [if_pos h2, if_pos (by omega)]
    · rw [if_neg h2, if_neg (by omega)]
theorem cpy_up0 {f g : Nat → Int32} {sp k : Nat} : upd (va_cpy f g sp 0 k) k (f (sp + k)) = va_cpy f g sp 0 (k + 1) := by
  have h := cpy_up (f := f) (g := g) (sp := sp) (dp := 0) (k := k)
  rwa [Nat.zero_add] at h
theorem cpy_0 {f g : Nat → Int32} {sp dp : Nat} : va_cpy f g sp dp 0 = g := by
  funext m
  unfold va_cpy
  rw [if_neg (by omega)]
theorem cpy_dn {g : Nat → Int32} {i c sz : Nat} (h : i < sz) : upd (va_cpy g g (i + 1) (i + 1 + c) (sz - (i + 1))) (i + c) (g i) = va_cpy g g i (i + c) (sz - i) := by
  funext m
  unfold upd va_cpy
  by_cases h1 : m = i + c
  · subst h1
    rw [if_pos rfl, if_pos (by omega), show i + (i + c - (i + c)) = i by omega]
  · rw [if_neg h1]
    by_cases h2 : i + 1 + c ≤ m ∧ m < i + 1 + c + (sz - (i + 1))
    · rw [if_pos h2, if_pos (by omega), show i + 1 + (m - (i + 1 + c)) = i + (m - (i + c)) by omega]
    · rw [if_neg h2, if_neg (by omega)]
theorem cpy_out {f g : Nat → Int32} {sp dp n j : Nat} (h : j < dp ∨ dp + n ≤ j) : va_cpy f g sp dp n j = g j := pk_cpy_out h
/-- x is none of 0 .. n - 1 -/
def zNa (x : Int32) (n : Nat) : Prop := x < 0 ∨ nI n ≤ x
theorem z_ix (x : Int32) {n : Nat} (hn : n < 2 ^ 31) : (∃ j : Nat, j < n ∧ x = nI j) ∨ zNa x n := by
  rcases pk_ix x hn with h | h | h
  · exact Or.inr (Or.inl h)
  · exact Or.inr (Or.inr h)
  · exact Or.inl h
theorem z_dec (x : Int32) : x + Int32.ofInt (-1) = x - 1 := by
  rw [Int32.sub_eq_add_neg]
  rfl
theorem z_m1 {b : Nat} (h : b < 2 ^ 31) : ¬ nI b = -1 := fun e => absurd (e ▸ nI_pos' h) (by decide)

set_option maxRecDepth 100000 in
set_option maxHeartbeats 4000000 in
theorem c_O_wipe {l : Launch} {D : va_G} {cI cC cZ cV : ClassId} {N : Nat} {q : Nat → Nat} {f : zF} (hN : 23 ≤ N) {n po th sz ty : Nat} (h10 : f 10 = zmo q n po th sz ty) : zC l y_O_wipe b_O_wipe 1 none (rmD 0 0 0) D (zty cI cC cZ cV) [.ref (q 10)] N q f (pW N q (va_up f 10 (zmo q n po th sz 0))) := by
  refine zC.of (by decide) (by simp [Value.category]) (Nat.le_of_ble_eq_true rfl) (fun G X Y => ?_)
  show G 0 0 0 [some (.ref (q 10))] [] N q f
  refine zr_aload_n X d_O_wipe_0 rfl ?_
  refine zr_iconst (v := nI 0) X d_O_wipe_1 (by decide) ?_
  refine zr_put (fs' := [.int (nI n), .ref (q 11), .ref (q 12), .ref (q 13), .ref (q 14), .ref (q 15), .int (nI po), .ref (q 16), .int (nI th), .int (nI sz), .ref (q 17), .ref (q 18), .int (nI 0), .ref (q 19), .ref (q 20), .ref (q 21), .ref (q 22)]) X F_O_52 d_O_wipe_2 (by omega) h10 rfl rfl (Nat.le_of_ble_eq_true rfl) rfl ?_
  refine zr_return Y d_O_wipe_5 (Nat.le_of_ble_eq_true rfl) (Nat.le_of_ble_eq_true rfl) ?_
  exact ⟨rfl, rfl, rfl, rfl⟩

set_option maxRecDepth 100000 in
set_option maxHeartbeats 4000000 in
theorem c_O_scratch {l : Launch} {D : va_G} {cI cC cZ cV : ClassId} {N : Nat} {q : Nat → Nat} {f : zF} (hN : 23 ≤ N) {n po th sz ty : Nat} (h10 : f 10 = zmo q n po th sz ty) : zC l y_O_scratch b_O_scratch 1 (some .int) (rmD 0 0 0) D (zty cI cC cZ cV) [.ref (q 10)] N q f (pRd N q f (nI ty)) := by
  refine zC.of (by decide) (by simp [Value.category]) (Nat.le_of_ble_eq_true rfl) (fun G X Y => ?_)
  show G 0 0 0 [some (.ref (q 10))] [] N q f
  refine zr_aload_n X d_O_scratch_0 rfl ?_
  refine zr_get X F_O_52 d_O_scratch_1 (by omega) h10 (v := .int (nI ty)) rfl ?_
  refine zr_ireturn Y d_O_scratch_4 rfl (Nat.le_of_ble_eq_true rfl) (Nat.le_of_ble_eq_true rfl) ?_
  exact ⟨rfl, rfl, rfl, rfl⟩

set_option maxRecDepth 100000 in
set_option maxHeartbeats 4000000 in
theorem c_O_version {l : Launch} {D : va_G} {cI cC cZ cV : ClassId} {N : Nat} {q : Nat → Nat} {f : zF} (hN : 23 ≤ N) {n po th sz ty : Nat} (h10 : f 10 = zmo q n po th sz ty) : zC l y_O_version b_O_version 1 (some .int) (rmD 0 0 0) D (zty cI cC cZ cV) [.ref (q 10)] N q f (pRd N q f (nI th)) := by
  refine zC.of (by decide) (by simp [Value.category]) (Nat.le_of_ble_eq_true rfl) (fun G X Y => ?_)
  show G 0 0 0 [some (.ref (q 10))] [] N q f
  refine zr_aload_n X d_O_version_0 rfl ?_
  refine zr_get X F_O_62 d_O_version_1 (by omega) h10 (v := .int (nI th)) rfl ?_
  refine zr_ireturn Y d_O_version_4 rfl (Nat.le_of_ble_eq_true rfl) (Nat.le_of_ble_eq_true rfl) ?_
  exact ⟨rfl, rfl, rfl, rfl⟩

set_option maxRecDepth 100000 in
set_option maxHeartbeats 4000000 in
theorem c_O_versions {l : Launch} {D : va_G} {cI cC cZ cV : ClassId} {N : Nat} {q : Nat → Nat} {f : zF} (hN : 23 ≤ N) {n po th sz ty : Nat} (h10 : f 10 = zmo q n po th sz ty) : zC l y_O_versions b_O_versions 1 (some .int) (rmD 0 0 0) D (zty cI cC cZ cV) [.ref (q 10)] N q f (pRd N q f (nI n)) := by
  refine zC.of (by decide) (by simp [Value.category]) (Nat.le_of_ble_eq_true rfl) (fun G X Y => ?_)
  show G 0 0 0 [some (.ref (q 10))] [] N q f
  refine zr_aload_n X d_O_versions_0 rfl ?_
  refine zr_get X F_O_7 d_O_versions_1 (by omega) h10 (v := .int (nI n)) rfl ?_
  refine zr_ireturn Y d_O_versions_4 rfl (Nat.le_of_ble_eq_true rfl) (Nat.le_of_ble_eq_true rfl) ?_
  exact ⟨rfl, rfl, rfl, rfl⟩

set_option maxRecDepth 100000 in
set_option maxHeartbeats 4000000 in
theorem c_O_length {l : Launch} {D : va_G} {cI cC cZ cV : ClassId} {N : Nat} {q : Nat → Nat} {f : zF} (hN : 23 ≤ N) {n po th sz ty : Nat} (h10 : f 10 = zmo q n po th sz ty) : zC l y_O_length b_O_length 1 (some .int) (rmD 0 0 0) D (zty cI cC cZ cV) [.ref (q 10)] N q f (pRd N q f (nI sz)) := by
  refine zC.of (by decide) (by simp [Value.category]) (Nat.le_of_ble_eq_true rfl) (fun G X Y => ?_)
  show G 0 0 0 [some (.ref (q 10))] [] N q f
  refine zr_aload_n X d_O_length_0 rfl ?_
  refine zr_get X F_O_55 d_O_length_1 (by omega) h10 (v := .int (nI sz)) rfl ?_
  refine zr_ireturn Y d_O_length_4 rfl (Nat.le_of_ble_eq_true rfl) (Nat.le_of_ble_eq_true rfl) ?_
  exact ⟨rfl, rfl, rfl, rfl⟩

set_option maxRecDepth 100000 in
set_option maxHeartbeats 4000000 in
theorem c_O_isPosition_y {l : Launch} {D : va_G} {cI cC cZ cV : ClassId} {N : Nat} {q : Nat → Nat} {f : zF} (hN : 23 ≤ N) {n po th sz ty : Nat} (h10 : f 10 = zmo q n po th sz ty) {p : Nat} (hs : sz < 2 ^ 31) (hp : p ≤ sz) : zC l y_O_isPosition b_O_isPosition 2 (some .boolean) (rmD 0 0 0) D (zty cI cC cZ cV) [.ref (q 10), .int (nI p)] N q f (pRd N q f (nI 1)) := by
  refine zC.of (by decide) (by simp [Value.category]) (Nat.le_of_ble_eq_true rfl) (fun G X Y => ?_)
  show G 0 0 0 [some (.ref (q 10)), some (.int (nI p))] [] N q f
  refine zr_iload_n X d_O_isPosition_0 rfl ?_
  refine zr_if_ltf (tgt := 16) X d_O_isPosition_1 rfl (nI_pos (by omega)) ?_
  refine zr_iload_n X d_O_isPosition_4 rfl ?_
  refine zr_aload_n X d_O_isPosition_5 rfl ?_
  refine zr_get X F_O_55 d_O_isPosition_6 (by omega) h10 (v := .int (nI sz)) rfl ?_
  refine zr_icmp_gtf (tgt := 16) X d_O_isPosition_9 rfl (nI_nlt hp hs) ?_
  refine zr_iconst (v := nI 1) X d_O_isPosition_12 (by decide) ?_
  refine zr_goto (tgt := 17) X d_O_isPosition_13 rfl ?_
  refine zr_ireturn Y d_O_isPosition_17 rfl (Nat.le_of_ble_eq_true rfl) (Nat.le_of_ble_eq_true rfl) ?_
  exact ⟨rfl, rfl, rfl, rfl⟩

set_option maxRecDepth 100000 in
set_option maxHeartbeats 4000000 in
theorem c_O_isPosition_n {l : Launch} {D : va_G} {cI cC cZ cV : ClassId} {N : Nat} {q : Nat → Nat} {f : zF} (hN : 23 ≤ N) {n po th sz ty : Nat} (h10 : f 10 = zmo q n po th sz ty) {x : Int32} (hx : zNo x sz) : zC l y_O_isPosition b_O_isPosition 2 (some .boolean) (rmD 0 0 0) D (zty cI cC cZ cV) [.ref (q 10), .int x] N q f (pRd N q f (nI 0)) := by
  refine zC.of (by decide) (by simp [Value.category]) (Nat.le_of_ble_eq_true rfl) (fun G X Y => ?_)
  show G 0 0 0 [some (.ref (q 10)), some (.int x)] [] N q f
  refine zr_iload_n X d_O_isPosition_0 rfl ?_
  refine zr_if_lt (tgt := 16) X d_O_isPosition_1 rfl (fun h1 => ?_) (fun h1 => ?_)
  · skip
    refine zr_iconst (v := nI 0) X d_O_isPosition_16 (by decide) ?_
    refine zr_ireturn Y d_O_isPosition_17 rfl (Nat.le_of_ble_eq_true rfl) (Nat.le_of_ble_eq_true rfl) ?_
    exact ⟨rfl, rfl, rfl, rfl⟩
  · skip
    refine zr_iload_n X d_O_isPosition_4 rfl ?_
    refine zr_aload_n X d_O_isPosition_5 rfl ?_
    refine zr_get X F_O_55 d_O_isPosition_6 (by omega) h10 (v := .int (nI sz)) rfl ?_
    refine zr_icmp_gtt (tgt := 16) X d_O_isPosition_9 rfl (hx.resolve_left h1) ?_
    refine zr_iconst (v := nI 0) X d_O_isPosition_16 (by decide) ?_
    refine zr_ireturn Y d_O_isPosition_17 rfl (Nat.le_of_ble_eq_true rfl) (Nat.le_of_ble_eq_true rfl) ?_
    exact ⟨rfl, rfl, rfl, rfl⟩

set_option maxRecDepth 100000 in
set_option maxHeartbeats 4000000 in
theorem c_O_isStretch_y {l : Launch} {D : va_G} {cI cC cZ cV : ClassId} {N : Nat} {q : Nat → Nat} {f : zF} (hN : 23 ≤ N) {n po th sz ty : Nat} (h10 : f 10 = zmo q n po th sz ty) {p c : Nat} (hs : sz < 2 ^ 31) (hp : p + c ≤ sz) : zC l y_O_isStretch b_O_isStretch 3 (some .boolean) (rmD 0 0 0) D (zty cI cC cZ cV) [.ref (q 10), .int (nI p), .int (nI c)] N q f (pRd N q f (nI 1)) := by
  refine zC.of (by decide) (by simp [Value.category]) (Nat.le_of_ble_eq_true rfl) (fun G X Y => ?_)
  show G 0 0 0 [some (.ref (q 10)), some (.int (nI p)), some (.int (nI c))] [] N q f
  refine zr_iload_n X d_O_isStretch_0 rfl ?_
  refine zr_if_ltf (tgt := 30) X d_O_isStretch_1 rfl (nI_pos (by omega)) ?_
  refine zr_iload_n X d_O_isStretch_4 rfl ?_
  refine zr_aload_n X d_O_isStretch_5 rfl ?_
  refine zr_get X F_O_55 d_O_isStretch_6 (by omega) h10 (v := .int (nI sz)) rfl ?_
  refine zr_icmp_gtf (tgt := 30) X d_O_isStretch_9 rfl (nI_nlt (by omega) hs) ?_
  refine zr_iload_n X d_O_isStretch_12 rfl ?_
  refine zr_if_ltf (tgt := 30) X d_O_isStretch_13 rfl (nI_pos (by omega)) ?_
  refine zr_iload_n X d_O_isStretch_16 rfl ?_
  refine zr_aload_n X d_O_isStretch_17 rfl ?_
  refine zr_get X F_O_55 d_O_isStretch_18 (by omega) h10 (v := .int (nI sz)) rfl ?_
  refine zr_iload_n X d_O_isStretch_21 rfl ?_
  refine zr_isub (z := nI (sz - p)) X d_O_isStretch_22 (pk_sub (by omega)) ?_
  refine zr_icmp_gtf (tgt := 30) X d_O_isStretch_23 rfl (nI_nlt (by omega) (by omega)) ?_
  refine zr_iconst (v := nI 1) X d_O_isStretch_26 (by decide) ?_
  refine zr_goto (tgt := 31) X d_O_isStretch_27 rfl ?_
  refine zr_ireturn Y d_O_isStretch_31 rfl (Nat.le_of_ble_eq_true rfl) (Nat.le_of_ble_eq_true rfl) ?_
  exact ⟨rfl, rfl, rfl, rfl⟩

set_option maxRecDepth 100000 in
set_option maxHeartbeats 4000000 in
theorem c_O_isStretch_n1 {l : Launch} {D : va_G} {cI cC cZ cV : ClassId} {N : Nat} {q : Nat → Nat} {f : zF} (hN : 23 ≤ N) {n po th sz ty : Nat} (h10 : f 10 = zmo q n po th sz ty) {x y : Int32} (hx : zNo x sz) : zC l y_O_isStretch b_O_isStretch 3 (some .boolean) (rmD 0 0 0) D (zty cI cC cZ cV) [.ref (q 10), .int x, .int y] N q f (pRd N q f (nI 0)) := by
  refine zC.of (by decide) (by simp [Value.category]) (Nat.le_of_ble_eq_true rfl) (fun G X Y => ?_)
  show G 0 0 0 [some (.ref (q 10)), some (.int x), some (.int y)] [] N q f
  refine zr_iload_n X d_O_isStretch_0 rfl ?_
  refine zr_if_lt (tgt := 30) X d_O_isStretch_1 rfl (fun h1 => ?_) (fun h1 => ?_)
  · skip
    refine zr_iconst (v := nI 0) X d_O_isStretch_30 (by decide) ?_
    refine zr_ireturn Y d_O_isStretch_31 rfl (Nat.le_of_ble_eq_true rfl) (Nat.le_of_ble_eq_true rfl) ?_
    exact ⟨rfl, rfl, rfl, rfl⟩
  · skip
    refine zr_iload_n X d_O_isStretch_4 rfl ?_
    refine zr_aload_n X d_O_isStretch_5 rfl ?_
    refine zr_get X F_O_55 d_O_isStretch_6 (by omega) h10 (v := .int (nI sz)) rfl ?_
    refine zr_icmp_gtt (tgt := 30) X d_O_isStretch_9 rfl (hx.resolve_left h1) ?_
    refine zr_iconst (v := nI 0) X d_O_isStretch_30 (by decide) ?_
    refine zr_ireturn Y d_O_isStretch_31 rfl (Nat.le_of_ble_eq_true rfl) (Nat.le_of_ble_eq_true rfl) ?_
    exact ⟨rfl, rfl, rfl, rfl⟩

set_option maxRecDepth 100000 in
set_option maxHeartbeats 4000000 in
theorem c_O_isStretch_n2 {l : Launch} {D : va_G} {cI cC cZ cV : ClassId} {N : Nat} {q : Nat → Nat} {f : zF} (hN : 23 ≤ N) {n po th sz ty : Nat} (h10 : f 10 = zmo q n po th sz ty) {p : Nat} {y : Int32} (hs : sz < 2 ^ 31) (hp : p ≤ sz) (hy : zNo y (sz - p)) : zC l y_O_isStretch b_O_isStretch 3 (some .boolean) (rmD 0 0 0) D (zty cI cC cZ cV) [.ref (q 10), .int (nI p), .int y] N q f (pRd N q f (nI 0)) := by
  refine zC.of (by decide) (by simp [Value.category]) (Nat.le_of_ble_eq_true rfl) (fun G X Y => ?_)
  show G 0 0 0 [some (.ref (q 10)), some (.int (nI p)), some (.int y)] [] N q f
  refine zr_iload_n X d_O_isStretch_0 rfl ?_
  refine zr_if_ltf (tgt := 30) X d_O_isStretch_1 rfl (nI_pos (by omega)) ?_
  refine zr_iload_n X d_O_isStretch_4 rfl ?_
  refine zr_aload_n X d_O_isStretch_5 rfl ?_
  refine zr_get X F_O_55 d_O_isStretch_6 (by omega) h10 (v := .int (nI sz)) rfl ?_
  refine zr_icmp_gtf (tgt := 30) X d_O_isStretch_9 rfl (nI_nlt (by omega) hs) ?_
  refine zr_iload_n X d_O_isStretch_12 rfl ?_
  refine zr_if_lt (tgt := 30) X d_O_isStretch_13 rfl (fun h13 => ?_) (fun h13 => ?_)
  · skip
    refine zr_iconst (v := nI 0) X d_O_isStretch_30 (by decide) ?_
    refine zr_ireturn Y d_O_isStretch_31 rfl (Nat.le_of_ble_eq_true rfl) (Nat.le_of_ble_eq_true rfl) ?_
    exact ⟨rfl, rfl, rfl, rfl⟩
  · skip
    refine zr_iload_n X d_O_isStretch_16 rfl ?_
    refine zr_aload_n X d_O_isStretch_17 rfl ?_
    refine zr_get X F_O_55 d_O_isStretch_18 (by omega) h10 (v := .int (nI sz)) rfl ?_
    refine zr_iload_n X d_O_isStretch_21 rfl ?_
    refine zr_isub (z := nI (sz - p)) X d_O_isStretch_22 (pk_sub (by omega)) ?_
    refine zr_icmp_gtt (tgt := 30) X d_O_isStretch_23 rfl (hy.resolve_left h13) ?_
    refine zr_iconst (v := nI 0) X d_O_isStretch_30 (by decide) ?_
    refine zr_ireturn Y d_O_isStretch_31 rfl (Nat.le_of_ble_eq_true rfl) (Nat.le_of_ble_eq_true rfl) ?_
    exact ⟨rfl, rfl, rfl, rfl⟩

theorem c_O_isStretch_n {l : Launch} {D : va_G} {cI cC cZ cV : ClassId} {N : Nat} {q : Nat → Nat} {f : zF} (hN : 23 ≤ N) {n po th sz ty : Nat} (h10 : f 10 = zmo q n po th sz ty) {x y : Int32} (hs : sz < 2 ^ 31) (hx : zNoS x y sz) : zC l y_O_isStretch b_O_isStretch 3 (some .boolean) (rmD 0 0 0) D (zty cI cC cZ cV) [.ref (q 10), .int x, .int y] N q f (pRd N q f (nI 0)) := by
  rcases hx with hx | ⟨p, hp, rfl, hy⟩
  · exact c_O_isStretch_n1 hN h10 hx
  · exact c_O_isStretch_n2 hN h10 hs hp hy

set_option maxRecDepth 100000 in
set_option maxHeartbeats 4000000 in
theorem c_O_type_y {l : Launch} {D : va_G} {cI cC cZ cV : ClassId} {N : Nat} {q : Nat → Nat} {f : zF} (hN : 23 ≤ N) {n po th sz ty : Nat} (h10 : f 10 = zmo q n po th sz ty) {sc : Nat → Int32} (h19 : f 19 = .inl (cC, 40, .inl sc)) {x : Int32} (hx : zIsCh x) (hf : fits .char (.int x) = true) (ht : ty < 40) : zC l y_O_type b_O_type 2 (some .boolean) (rmD 0 0 0) D (zty cI cC cZ cV) [.ref (q 10), .int x] N q f (fun v N' q' f' => v = some (.int (nI 1)) ∧ N' = N ∧ q' = q ∧ f' = va_up (va_up f 19 (.inl (cC, 40, .inl (upd sc ty x)))) 10 (zmo q n po th sz (ty + 1))) := by
  refine zC.of (by decide) (by simp [Value.category]) (Nat.le_of_ble_eq_true rfl) (fun G X Y => ?_)
  show G 0 0 0 [some (.ref (q 10)), some (.int x)] [] N q f
  refine zr_iload_n X d_O_type_0 rfl ?_
  refine zr_bipush (v := 10) X d_O_type_1 (by decide) ?_
  refine zr_icmp_eq (tgt := 18) X d_O_type_3 rfl (fun h3 => ?_) (fun h3 => ?_)
  · skip
    refine zr_aload_n X d_O_type_18 rfl ?_
    refine zr_get X F_O_52 d_O_type_19 (by omega) h10 (v := .int (nI ty)) rfl ?_
    refine zr_bipush (v := nI 40) X d_O_type_22 (by decide) ?_
    refine zr_icmp_net (tgt := 29) X d_O_type_24 rfl (fun h9 => absurd ((nI_eq (by omega) (by decide)).mp h9) (by omega)) ?_
    refine zr_aload_n X d_O_type_29 rfl ?_
    refine zr_get X F_O_40 d_O_type_30 (by omega) h10 (v := .ref (q 19)) rfl ?_
    refine zr_aload_n X d_O_type_33 rfl ?_
    refine zr_get X F_O_52 d_O_type_34 (by omega) h10 (v := .int (nI ty)) rfl ?_
    refine zr_iload_n X d_O_type_37 rfl ?_
    refine zr_castore X 1 d_O_type_38 (by omega) h19 rfl (by omega) (by decide) (z_charN hf) ?_
    refine zr_aload_n X d_O_type_39 rfl ?_
    refine zr_dup X d_O_type_40 rfl ?_
    refine zr_get X F_O_52 d_O_type_41 (by omega) (up_ne (by decide) h10) (v := .int (nI ty)) rfl ?_
    refine zr_iconst (v := nI 1) X d_O_type_44 (by decide) ?_
    refine zr_iadd (z := nI (ty + 1)) X d_O_type_45 (nI_add _ _) ?_
    refine zr_put (fs' := [.int (nI n), .ref (q 11), .ref (q 12), .ref (q 13), .ref (q 14), .ref (q 15), .int (nI po), .ref (q 16), .int (nI th), .int (nI sz), .ref (q 17), .ref (q 18), .int (nI (ty + 1)), .ref (q 19), .ref (q 20), .ref (q 21), .ref (q 22)]) X F_O_52 d_O_type_46 (by omega) (up_ne (by decide) h10) rfl rfl (Nat.le_of_ble_eq_true rfl) rfl ?_
    refine zr_iconst (v := nI 1) X d_O_type_49 (by decide) ?_
    refine zr_ireturn Y d_O_type_50 rfl (Nat.le_of_ble_eq_true rfl) (Nat.le_of_ble_eq_true rfl) ?_
    exact ⟨rfl, rfl, rfl, rfl⟩
  · skip
    refine zr_iload_n X d_O_type_6 rfl ?_
    refine zr_bipush (v := 32) X d_O_type_7 (by decide) ?_
    refine zr_icmp_ltf (tgt := 27) X d_O_type_9 rfl (hx.resolve_left h3).1 ?_
    refine zr_iload_n X d_O_type_12 rfl ?_
    refine zr_bipush (v := 126) X d_O_type_13 (by decide) ?_
    refine zr_icmp_gtf (tgt := 27) X d_O_type_15 rfl (hx.resolve_left h3).2 ?_
    refine zr_aload_n X d_O_type_18 rfl ?_
    refine zr_get X F_O_52 d_O_type_19 (by omega) h10 (v := .int (nI ty)) rfl ?_
    refine zr_bipush (v := nI 40) X d_O_type_22 (by decide) ?_
    refine zr_icmp_net (tgt := 29) X d_O_type_24 rfl (fun h9 => absurd ((nI_eq (by omega) (by decide)).mp h9) (by omega)) ?_
    refine zr_aload_n X d_O_type_29 rfl ?_
    refine zr_get X F_O_40 d_O_type_30 (by omega) h10 (v := .ref (q 19)) rfl ?_
    refine zr_aload_n X d_O_type_33 rfl ?_
    refine zr_get X F_O_52 d_O_type_34 (by omega) h10 (v := .int (nI ty)) rfl ?_
    refine zr_iload_n X d_O_type_37 rfl ?_
    refine zr_castore X 1 d_O_type_38 (by omega) h19 rfl (by omega) (by decide) (z_charN hf) ?_
    refine zr_aload_n X d_O_type_39 rfl ?_
    refine zr_dup X d_O_type_40 rfl ?_
    refine zr_get X F_O_52 d_O_type_41 (by omega) (up_ne (by decide) h10) (v := .int (nI ty)) rfl ?_
    refine zr_iconst (v := nI 1) X d_O_type_44 (by decide) ?_
    refine zr_iadd (z := nI (ty + 1)) X d_O_type_45 (nI_add _ _) ?_
    refine zr_put (fs' := [.int (nI n), .ref (q 11), .ref (q 12), .ref (q 13), .ref (q 14), .ref (q 15), .int (nI po), .ref (q 16), .int (nI th), .int (nI sz), .ref (q 17), .ref (q 18), .int (nI (ty + 1)), .ref (q 19), .ref (q 20), .ref (q 21), .ref (q 22)]) X F_O_52 d_O_type_46 (by omega) (up_ne (by decide) h10) rfl rfl (Nat.le_of_ble_eq_true rfl) rfl ?_
    refine zr_iconst (v := nI 1) X d_O_type_49 (by decide) ?_
    refine zr_ireturn Y d_O_type_50 rfl (Nat.le_of_ble_eq_true rfl) (Nat.le_of_ble_eq_true rfl) ?_
    exact ⟨rfl, rfl, rfl, rfl⟩

set_option maxRecDepth 100000 in
set_option maxHeartbeats 4000000 in
theorem c_O_type_n {l : Launch} {D : va_G} {cI cC cZ cV : ClassId} {N : Nat} {q : Nat → Nat} {f : zF} (hN : 23 ≤ N) {n po th sz ty : Nat} (h10 : f 10 = zmo q n po th sz ty) {x : Int32} (hx : ¬ zIsCh x) : zC l y_O_type b_O_type 2 (some .boolean) (rmD 0 0 0) D (zty cI cC cZ cV) [.ref (q 10), .int x] N q f (pRd N q f (nI 0)) := by
  refine zC.of (by decide) (by simp [Value.category]) (Nat.le_of_ble_eq_true rfl) (fun G X Y => ?_)
  show G 0 0 0 [some (.ref (q 10)), some (.int x)] [] N q f
  refine zr_iload_n X d_O_type_0 rfl ?_
  refine zr_bipush (v := 10) X d_O_type_1 (by decide) ?_
  refine zr_icmp_eqf (tgt := 18) X d_O_type_3 rfl (fun h => hx (Or.inl h)) ?_
  refine zr_iload_n X d_O_type_6 rfl ?_
  refine zr_bipush (v := 32) X d_O_type_7 (by decide) ?_
  refine zr_icmp_lt (tgt := 27) X d_O_type_9 rfl (fun h9 => ?_) (fun h9 => ?_)
  · skip
    refine zr_iconst (v := nI 0) X d_O_type_27 (by decide) ?_
    refine zr_ireturn Y d_O_type_28 rfl (Nat.le_of_ble_eq_true rfl) (Nat.le_of_ble_eq_true rfl) ?_
    exact ⟨rfl, rfl, rfl, rfl⟩
  · skip
    refine zr_iload_n X d_O_type_12 rfl ?_
    refine zr_bipush (v := 126) X d_O_type_13 (by decide) ?_
    refine zr_icmp_gtt (tgt := 27) X d_O_type_15 rfl (Decidable.byContradiction (fun h => hx (Or.inr ⟨h9, h⟩))) ?_
    refine zr_iconst (v := nI 0) X d_O_type_27 (by decide) ?_
    refine zr_ireturn Y d_O_type_28 rfl (Nat.le_of_ble_eq_true rfl) (Nat.le_of_ble_eq_true rfl) ?_
    exact ⟨rfl, rfl, rfl, rfl⟩

set_option maxRecDepth 100000 in
set_option maxHeartbeats 4000000 in
theorem c_O_type_f {l : Launch} {D : va_G} {cI cC cZ cV : ClassId} {N : Nat} {q : Nat → Nat} {f : zF} (hN : 23 ≤ N) {n po th sz ty : Nat} (h10 : f 10 = zmo q n po th sz ty) {x : Int32} (hx : zIsCh x) (ht : ty = 40) : zC l y_O_type b_O_type 2 (some .boolean) (rmD 0 0 0) D (zty cI cC cZ cV) [.ref (q 10), .int x] N q f (pRd N q f (nI 0)) := by
  refine zC.of (by decide) (by simp [Value.category]) (Nat.le_of_ble_eq_true rfl) (fun G X Y => ?_)
  show G 0 0 0 [some (.ref (q 10)), some (.int x)] [] N q f
  refine zr_iload_n X d_O_type_0 rfl ?_
  refine zr_bipush (v := 10) X d_O_type_1 (by decide) ?_
  refine zr_icmp_eq (tgt := 18) X d_O_type_3 rfl (fun h3 => ?_) (fun h3 => ?_)
  · skip
    refine zr_aload_n X d_O_type_18 rfl ?_
    refine zr_get X F_O_52 d_O_type_19 (by omega) h10 (v := .int (nI ty)) rfl ?_
    refine zr_bipush (v := nI 40) X d_O_type_22 (by decide) ?_
    refine zr_icmp_nef (tgt := 29) X d_O_type_24 rfl (by rw [ht]) ?_
    refine zr_iconst (v := nI 0) X d_O_type_27 (by decide) ?_
    refine zr_ireturn Y d_O_type_28 rfl (Nat.le_of_ble_eq_true rfl) (Nat.le_of_ble_eq_true rfl) ?_
    exact ⟨rfl, rfl, rfl, rfl⟩
  · skip
    refine zr_iload_n X d_O_type_6 rfl ?_
    refine zr_bipush (v := 32) X d_O_type_7 (by decide) ?_
    refine zr_icmp_ltf (tgt := 27) X d_O_type_9 rfl (hx.resolve_left h3).1 ?_
    refine zr_iload_n X d_O_type_12 rfl ?_
    refine zr_bipush (v := 126) X d_O_type_13 (by decide) ?_
    refine zr_icmp_gtf (tgt := 27) X d_O_type_15 rfl (hx.resolve_left h3).2 ?_
    refine zr_aload_n X d_O_type_18 rfl ?_
    refine zr_get X F_O_52 d_O_type_19 (by omega) h10 (v := .int (nI ty)) rfl ?_
    refine zr_bipush (v := nI 40) X d_O_type_22 (by decide) ?_
    refine zr_icmp_nef (tgt := 29) X d_O_type_24 rfl (by rw [ht]) ?_
    refine zr_iconst (v := nI 0) X d_O_type_27 (by decide) ?_
    refine zr_ireturn Y d_O_type_28 rfl (Nat.le_of_ble_eq_true rfl) (Nat.le_of_ble_eq_true rfl) ?_
    exact ⟨rfl, rfl, rfl, rfl⟩

set_option maxRecDepth 100000 in
set_option maxHeartbeats 4000000 in
theorem c_O_copy_n1 {l : Launch} {D : va_G} {cI cC cZ cV : ClassId} {N : Nat} {q : Nat → Nat} {f : zF} (hN : 23 ≤ N) {n po th sz ty : Nat} (h10 : f 10 = zmo q n po th sz ty) {x y : Int32} (hs : sz < 2 ^ 31) (hx : zNoS x y sz) : zC l y_O_copy b_O_copy 4 (some .int) (rmD 1 0 0) D (zty cI cC cZ cV) [.ref (q 10), .int x, .int y] N q f (pRd N q f (-1)) := by
  refine zC.of (by decide) (by simp [Value.category]) (Nat.le_of_ble_eq_true rfl) (fun G X Y => ?_)
  show G 0 0 0 [some (.ref (q 10)), some (.int x), some (.int y), none] [] N q f
  refine zr_aload_n X d_O_copy_0 rfl ?_
  refine zr_iload_n X d_O_copy_1 rfl ?_
  refine zr_iload_n X d_O_copy_2 rfl ?_
  refine zr_callV X K_O_58 KI_O_58 KS_O_58 (c_O_isStretch_n hN h10 hs hx) d_O_copy_3 (by omega) h10 rfl rfl (by decide) (Nat.le_of_ble_eq_true rfl) (by decide) (st := []) rfl (kRd ?_)
  show G 0 0 6 [some (.ref (q 10)), some (.int x), some (.int y), none] [.int (nI 0)] N q f
  refine zr_if_eqt (tgt := 15) X d_O_copy_6 rfl (by decide) ?_
  refine zr_iconst (v := (-1)) X d_O_copy_15 (by decide) ?_
  refine zr_ireturn Y d_O_copy_16 rfl (Nat.le_of_ble_eq_true rfl) (Nat.le_of_ble_eq_true rfl) ?_
  exact ⟨rfl, rfl, rfl, rfl⟩

set_option maxRecDepth 100000 in
set_option maxHeartbeats 4000000 in
theorem c_O_copy_n2 {l : Launch} {D : va_G} {cI cC cZ cV : ClassId} {N : Nat} {q : Nat → Nat} {f : zF} (hN : 23 ≤ N) {n po th sz ty : Nat} (h10 : f 10 = zmo q n po th sz ty) {p c : Nat} (hs : sz < 2 ^ 31) (hp : p + c ≤ sz) (hc : 40 < c) : zC l y_O_copy b_O_copy 4 (some .int) (rmD 1 0 0) D (zty cI cC cZ cV) [.ref (q 10), .int (nI p), .int (nI c)] N q f (pRd N q f (-1)) := by
  refine zC.of (by decide) (by simp [Value.category]) (Nat.le_of_ble_eq_true rfl) (fun G X Y => ?_)
  show G 0 0 0 [some (.ref (q 10)), some (.int (nI p)), some (.int (nI c)), none] [] N q f
  refine zr_aload_n X d_O_copy_0 rfl ?_
  refine zr_iload_n X d_O_copy_1 rfl ?_
  refine zr_iload_n X d_O_copy_2 rfl ?_
  refine zr_callV X K_O_58 KI_O_58 KS_O_58 (c_O_isStretch_y hN h10 hs hp) d_O_copy_3 (by omega) h10 rfl rfl (by decide) (Nat.le_of_ble_eq_true rfl) (by decide) (st := []) rfl (kRd ?_)
  show G 0 0 6 [some (.ref (q 10)), some (.int (nI p)), some (.int (nI c)), none] [.int (nI 1)] N q f
  refine zr_if_eqf (tgt := 15) X d_O_copy_6 rfl (by decide) ?_
  refine zr_iload_n X d_O_copy_9 rfl ?_
  refine zr_bipush (v := nI 40) X d_O_copy_10 (by decide) ?_
  refine zr_icmp_lef (tgt := 17) X d_O_copy_12 rfl (nI_ge hc (by omega)) ?_
  refine zr_iconst (v := (-1)) X d_O_copy_15 (by decide) ?_
  refine zr_ireturn Y d_O_copy_16 rfl (Nat.le_of_ble_eq_true rfl) (Nat.le_of_ble_eq_true rfl) ?_
  exact ⟨rfl, rfl, rfl, rfl⟩

set_option maxRecDepth 100000 in
set_option maxHeartbeats 4000000 in
theorem c_O_copy_y {l : Launch} {D : va_G} {cI cC cZ cV : ClassId} {N : Nat} {q : Nat → Nat} {f : zF} (hN : 23 ≤ N) {n po th sz ty : Nat} (h10 : f 10 = zmo q n po th sz ty) {tx : Nat → Int32} (h17 : f 17 = .inl (cC, 2000, .inl tx)) {sc : Nat → Int32} (h19 : f 19 = .inl (cC, 40, .inl sc)) (htx : zCh tx) {p c : Nat} (hs : sz ≤ 2000) (hp : p + c ≤ sz) (hc : c ≤ 40) : zC l y_O_copy b_O_copy 4 (some .int) (rmD 1 0 0) D (zty cI cC cZ cV) [.ref (q 10), .int (nI p), .int (nI c)] N q f (fun v N' q' f' => v = some (.int (nI c)) ∧ N' = N ∧ q' = q ∧ f' = va_up (va_up f 19 (.inl (cC, 40, .inl (va_cpy tx sc p 0 c)))) 10 (zmo q n po th sz c)) := by
  refine zC.of (by decide) (by simp [Value.category]) (Nat.le_of_ble_eq_true rfl) (fun G X Y => ?_)
  show G 0 0 0 [some (.ref (q 10)), some (.int (nI p)), some (.int (nI c)), none] [] N q f
  have loop : ∀ (d i : Nat), i + d = c → G 0 0 19 [some (.ref (q 10)), some (.int (nI p)), some (.int (nI c)), some (.int (nI i))] [] N q (va_up f 19 (.inl (cC, 40, .inl (va_cpy tx sc p 0 i)))) := by
    intro d
    induction d with
    | zero =>
      intro i hi
      show G 0 0 19 [some (.ref (q 10)), some (.int (nI p)), some (.int (nI c)), some (.int (nI i))] [] N q (va_up f 19 (.inl (cC, 40, .inl (va_cpy tx sc p 0 i))))
      refine zr_iload_n X d_O_copy_19 rfl ?_
      refine zr_iload_n X d_O_copy_20 rfl ?_
      refine zr_icmp_get (tgt := 44) X d_O_copy_21 rfl (nI_le (by omega) (by omega)) ?_
      refine zr_aload_n X d_O_copy_44 rfl ?_
      refine zr_iload_n X d_O_copy_45 rfl ?_
      refine zr_put (fs' := [.int (nI n), .ref (q 11), .ref (q 12), .ref (q 13), .ref (q 14), .ref (q 15), .int (nI po), .ref (q 16), .int (nI th), .int (nI sz), .ref (q 17), .ref (q 18), .int (nI c), .ref (q 19), .ref (q 20), .ref (q 21), .ref (q 22)]) X F_O_52 d_O_copy_46 (by omega) (up_ne (by decide) h10) rfl rfl (Nat.le_of_ble_eq_true rfl) rfl ?_
      refine zr_iload_n X d_O_copy_49 rfl ?_
      refine zr_ireturn Y d_O_copy_50 rfl (Nat.le_of_ble_eq_true rfl) (Nat.le_of_ble_eq_true rfl) ?_
      exact ⟨rfl, rfl, rfl, by rw [show i = c by omega]⟩
    | succ d ih =>
      intro i hi
      show G 0 0 19 [some (.ref (q 10)), some (.int (nI p)), some (.int (nI c)), some (.int (nI i))] [] N q (va_up f 19 (.inl (cC, 40, .inl (va_cpy tx sc p 0 i))))
      refine zr_iload_n X d_O_copy_19 rfl ?_
      refine zr_iload_n X d_O_copy_20 rfl ?_
      refine zr_icmp_gef (tgt := 44) X d_O_copy_21 rfl (nI_ge (by omega) (by omega)) ?_
      refine zr_aload_n X d_O_copy_24 rfl ?_
      refine zr_get X F_O_40 d_O_copy_25 (by omega) (up_ne (by decide) h10) (v := .ref (q 19)) rfl ?_
      refine zr_iload_n X d_O_copy_28 rfl ?_
      refine zr_aload_n X d_O_copy_29 rfl ?_
      refine zr_get X F_O_34 d_O_copy_30 (by omega) (up_ne (by decide) h10) (v := .ref (q 17)) rfl ?_
      refine zr_iload_n X d_O_copy_33 rfl ?_
      refine zr_iload_n X d_O_copy_34 rfl ?_
      refine zr_iadd (z := nI (p + i)) X d_O_copy_35 (nI_add _ _) ?_
      refine zr_caload (v := tx (p + i)) X 1 d_O_copy_36 (by omega) (up_ne (by decide) h17) rfl (by omega) (by decide) rfl ?_
      refine zr_castore X 1 d_O_copy_37 (by omega) up_eq rfl (by omega) (by decide) (z_charN (htx _)) ?_
      refine zr_iinc (v := nI (i + 1)) (lv' := [some (.ref (q 10)), some (.int (nI p)), some (.int (nI c)), some (.int (nI (i + 1)))]) X d_O_copy_38 rfl (nI_1 _) (by decide) rfl ?_
      refine zr_goto (tgt := 19) X d_O_copy_41 rfl ?_
      have h9 := ih (i + 1) (by omega)
      rw [← cpy_up0] at h9
      rw [bx_uu]
      exact h9
  refine zr_aload_n X d_O_copy_0 rfl ?_
  refine zr_iload_n X d_O_copy_1 rfl ?_
  refine zr_iload_n X d_O_copy_2 rfl ?_
  refine zr_callV X K_O_58 KI_O_58 KS_O_58 (c_O_isStretch_y hN h10 (by omega) hp) d_O_copy_3 (by omega) h10 rfl rfl (by decide) (Nat.le_of_ble_eq_true rfl) (by decide) (st := []) rfl (kRd ?_)
  show G 0 0 6 [some (.ref (q 10)), some (.int (nI p)), some (.int (nI c)), none] [.int (nI 1)] N q f
  refine zr_if_eqf (tgt := 15) X d_O_copy_6 rfl (by decide) ?_
  refine zr_iload_n X d_O_copy_9 rfl ?_
  refine zr_bipush (v := nI 40) X d_O_copy_10 (by decide) ?_
  refine zr_icmp_let (tgt := 17) X d_O_copy_12 rfl (nI_le hc (by decide)) ?_
  refine zr_iconst (v := nI 0) X d_O_copy_17 (by decide) ?_
  refine zr_istore_n (lv' := [some (.ref (q 10)), some (.int (nI p)), some (.int (nI c)), some (.int (nI 0))]) X d_O_copy_18 (by decide) rfl ?_
  have h0 := loop c 0 (by omega)
  rw [cpy_0, up_self h19] at h0
  exact h0

theorem z_pred_lt {i p : Nat} (h : i ≤ p) (hp : p < 2 ^ 31) : nI i - 1 < nI p := by
  cases i with
  | zero =>
    rw [show nI 0 - 1 = -1 from rfl, Int32.lt_iff_toInt_lt, nI_toInt hp]
    show (-1 : Int) < _
    omega
  | succ i =>
    rw [nI_pred]
    exact nI_lt (by omega) hp

set_option maxRecDepth 100000 in
set_option maxHeartbeats 4000000 in
theorem c_O_bring {l : Launch} {D : va_G} {cI cC cZ cV : ClassId} {N : Nat} {q : Nat → Nat} {f : zF} (hN : 23 ≤ N) {n po th sz ty : Nat} (h10 : f 10 = zmo q n po th sz ty) {pl : Nat → Int32} (h13 : f 13 = .inl (cI, 122, .inl pl)) {mn : Nat → Int32} (h14 : f 14 = .inl (cI, 122, .inl mn)) {fi : Nat → Int32} (h15 : f 15 = .inl (cI, 122, .inl fi)) {pool : Nat → Int32} (h16 : f 16 = .inl (cC, 2000, .inl pool)) {tx : Nat → Int32} (h17 : f 17 = .inl (cC, 2000, .inl tx)) (htx : zCh tx) (hpool : zCh pool) {v p c a : Nat} (hv : v < 122) (hp : pl v = nI p) (hc : mn v = nI c) (ha : fi v = nI a) (hps : p ≤ sz) (hsz : sz + c ≤ 2000) (hac : a + c ≤ 2000) : zC l y_O_bring b_O_bring 3 none (rmD 0 0 0) D (zty cI cC cZ cV) [.ref (q 10), .int (nI v)] N q f (pW N q (va_up (va_up f 17 (.inl (cC, 2000, .inl (va_cpy pool (va_cpy tx tx p (p + c) (sz - p)) a p c)))) 10 (zmo q n po th (sz + c) ty))) := by
  refine zC.of (by decide) (by simp [Value.category]) (Nat.le_of_ble_eq_true rfl) (fun G X Y => ?_)
  show G 0 0 0 [some (.ref (q 10)), some (.int (nI v)), none] [] N q f
  have loop2 : ∀ (d i : Nat), i + d = c → G 0 0 44 [some (.ref (q 10)), some (.int (nI v)), some (.int (nI i))] [] N q (va_up f 17 (.inl (cC, 2000, .inl (va_cpy pool (va_cpy tx tx p (p + c) (sz - p)) a p i)))) := by
    intro d
    induction d with
    | zero =>
      intro i hi
      show G 0 0 44 [some (.ref (q 10)), some (.int (nI v)), some (.int (nI i))] [] N q (va_up f 17 (.inl (cC, 2000, .inl (va_cpy pool (va_cpy tx tx p (p + c) (sz - p)) a p i))))
      refine zr_iload_n X d_O_bring_44 rfl ?_
      refine zr_aload_n X d_O_bring_45 rfl ?_
      refine zr_get X F_O_24 d_O_bring_46 (by omega) (up_ne (by decide) h10) (v := .ref (q 14)) rfl ?_
      refine zr_iload_n X d_O_bring_49 rfl ?_
      refine zr_iaload (v := nI c) X 0 d_O_bring_50 (by omega) (up_ne (by decide) h14) rfl (by omega) (by decide) hc ?_
      refine zr_icmp_get (tgt := 86) X d_O_bring_51 rfl (nI_le (by omega) (by omega)) ?_
      refine zr_aload_n X d_O_bring_86 rfl ?_
      refine zr_aload_n X d_O_bring_87 rfl ?_
      refine zr_get X F_O_55 d_O_bring_88 (by omega) (up_ne (by decide) h10) (v := .int (nI sz)) rfl ?_
      refine zr_aload_n X d_O_bring_91 rfl ?_
      refine zr_get X F_O_24 d_O_bring_92 (by omega) (up_ne (by decide) h10) (v := .ref (q 14)) rfl ?_
      refine zr_iload_n X d_O_bring_95 rfl ?_
      refine zr_iaload (v := nI c) X 0 d_O_bring_96 (by omega) (up_ne (by decide) h14) rfl (by omega) (by decide) hc ?_
      refine zr_iadd (z := nI (sz + c)) X d_O_bring_97 (nI_add _ _) ?_
      refine zr_put (fs' := [.int (nI n), .ref (q 11), .ref (q 12), .ref (q 13), .ref (q 14), .ref (q 15), .int (nI po), .ref (q 16), .int (nI th), .int (nI (sz + c)), .ref (q 17), .ref (q 18), .int (nI ty), .ref (q 19), .ref (q 20), .ref (q 21), .ref (q 22)]) X F_O_55 d_O_bring_98 (by omega) (up_ne (by decide) h10) rfl rfl (Nat.le_of_ble_eq_true rfl) rfl ?_
      refine zr_return Y d_O_bring_101 (Nat.le_of_ble_eq_true rfl) (Nat.le_of_ble_eq_true rfl) ?_
      exact ⟨rfl, rfl, rfl, by rw [show i = c by omega]⟩
    | succ d ih =>
      intro i hi
      show G 0 0 44 [some (.ref (q 10)), some (.int (nI v)), some (.int (nI i))] [] N q (va_up f 17 (.inl (cC, 2000, .inl (va_cpy pool (va_cpy tx tx p (p + c) (sz - p)) a p i))))
      refine zr_iload_n X d_O_bring_44 rfl ?_
      refine zr_aload_n X d_O_bring_45 rfl ?_
      refine zr_get X F_O_24 d_O_bring_46 (by omega) (up_ne (by decide) h10) (v := .ref (q 14)) rfl ?_
      refine zr_iload_n X d_O_bring_49 rfl ?_
      refine zr_iaload (v := nI c) X 0 d_O_bring_50 (by omega) (up_ne (by decide) h14) rfl (by omega) (by decide) hc ?_
      refine zr_icmp_gef (tgt := 86) X d_O_bring_51 rfl (nI_ge (by omega) (by omega)) ?_
      refine zr_aload_n X d_O_bring_54 rfl ?_
      refine zr_get X F_O_34 d_O_bring_55 (by omega) (up_ne (by decide) h10) (v := .ref (q 17)) rfl ?_
      refine zr_aload_n X d_O_bring_58 rfl ?_
      refine zr_get X F_O_21 d_O_bring_59 (by omega) (up_ne (by decide) h10) (v := .ref (q 13)) rfl ?_
      refine zr_iload_n X d_O_bring_62 rfl ?_
      refine zr_iaload (v := nI p) X 0 d_O_bring_63 (by omega) (up_ne (by decide) h13) rfl (by omega) (by decide) hp ?_
      refine zr_iload_n X d_O_bring_64 rfl ?_
      refine zr_iadd (z := nI (p + i)) X d_O_bring_65 (nI_add _ _) ?_
      refine zr_aload_n X d_O_bring_66 rfl ?_
      refine zr_get X F_O_30 d_O_bring_67 (by omega) (up_ne (by decide) h10) (v := .ref (q 16)) rfl ?_
      refine zr_aload_n X d_O_bring_70 rfl ?_
      refine zr_get X F_O_27 d_O_bring_71 (by omega) (up_ne (by decide) h10) (v := .ref (q 15)) rfl ?_
      refine zr_iload_n X d_O_bring_74 rfl ?_
      refine zr_iaload (v := nI a) X 0 d_O_bring_75 (by omega) (up_ne (by decide) h15) rfl (by omega) (by decide) ha ?_
      refine zr_iload_n X d_O_bring_76 rfl ?_
      refine zr_iadd (z := nI (a + i)) X d_O_bring_77 (nI_add _ _) ?_
      refine zr_caload (v := pool (a + i)) X 1 d_O_bring_78 (by omega) (up_ne (by decide) h16) rfl (by omega) (by decide) rfl ?_
      refine zr_castore X 1 d_O_bring_79 (by omega) up_eq rfl (by omega) (by decide) (z_charN (hpool _)) ?_
      refine zr_iinc (v := nI (i + 1)) (lv' := [some (.ref (q 10)), some (.int (nI v)), some (.int (nI (i + 1)))]) X d_O_bring_80 rfl (nI_1 _) (by decide) rfl ?_
      refine zr_goto (tgt := 44) X d_O_bring_83 rfl ?_
      have h9 := ih (i + 1) (by omega)
      rw [← cpy_up] at h9
      rw [bx_uu]
      exact h9
  have loop1 : ∀ (d i : Nat), i = p + d → i ≤ sz → G 0 0 7 [some (.ref (q 10)), some (.int (nI v)), some (.int (nI i - 1))] [] N q (va_up f 17 (.inl (cC, 2000, .inl (va_cpy tx tx i (i + c) (sz - i))))) := by
    intro d
    induction d with
    | zero =>
      intro i hi his
      show G 0 0 7 [some (.ref (q 10)), some (.int (nI v)), some (.int (nI i - 1))] [] N q (va_up f 17 (.inl (cC, 2000, .inl (va_cpy tx tx i (i + c) (sz - i)))))
      refine zr_iload_n X d_O_bring_7 rfl ?_
      refine zr_aload_n X d_O_bring_8 rfl ?_
      refine zr_get X F_O_21 d_O_bring_9 (by omega) (up_ne (by decide) h10) (v := .ref (q 13)) rfl ?_
      refine zr_iload_n X d_O_bring_12 rfl ?_
      refine zr_iaload (v := nI p) X 0 d_O_bring_13 (by omega) (up_ne (by decide) h13) rfl (by omega) (by decide) hp ?_
      refine zr_icmp_ltt (tgt := 42) X d_O_bring_14 rfl (z_pred_lt (by omega) (by omega)) ?_
      refine zr_iconst (v := nI 0) X d_O_bring_42 (by decide) ?_
      refine zr_istore_n (lv' := [some (.ref (q 10)), some (.int (nI v)), some (.int (nI 0))]) X d_O_bring_43 (by decide) rfl ?_
      have h9 := loop2 c 0 (by omega)
      rw [cpy_0] at h9
      rw [show i = p by omega]
      exact h9
    | succ d ih =>
      intro i hi his
      obtain ⟨i, rfl⟩ : ∃ z, i = z + 1 := ⟨i - 1, by omega⟩
      rw [nI_pred i]
      show G 0 0 7 [some (.ref (q 10)), some (.int (nI v)), some (.int (nI i))] [] N q (va_up f 17 (.inl (cC, 2000, .inl (va_cpy tx tx (i + 1) (i + 1 + c) (sz - (i + 1))))))
      refine zr_iload_n X d_O_bring_7 rfl ?_
      refine zr_aload_n X d_O_bring_8 rfl ?_
      refine zr_get X F_O_21 d_O_bring_9 (by omega) (up_ne (by decide) h10) (v := .ref (q 13)) rfl ?_
      refine zr_iload_n X d_O_bring_12 rfl ?_
      refine zr_iaload (v := nI p) X 0 d_O_bring_13 (by omega) (up_ne (by decide) h13) rfl (by omega) (by decide) hp ?_
      refine zr_icmp_ltf (tgt := 42) X d_O_bring_14 rfl (nI_nlt (by omega) (by omega)) ?_
      refine zr_aload_n X d_O_bring_17 rfl ?_
      refine zr_get X F_O_34 d_O_bring_18 (by omega) (up_ne (by decide) h10) (v := .ref (q 17)) rfl ?_
      refine zr_iload_n X d_O_bring_21 rfl ?_
      refine zr_aload_n X d_O_bring_22 rfl ?_
      refine zr_get X F_O_24 d_O_bring_23 (by omega) (up_ne (by decide) h10) (v := .ref (q 14)) rfl ?_
      refine zr_iload_n X d_O_bring_26 rfl ?_
      refine zr_iaload (v := nI c) X 0 d_O_bring_27 (by omega) (up_ne (by decide) h14) rfl (by omega) (by decide) hc ?_
      refine zr_iadd (z := nI (i + c)) X d_O_bring_28 (nI_add _ _) ?_
      refine zr_aload_n X d_O_bring_29 rfl ?_
      refine zr_get X F_O_34 d_O_bring_30 (by omega) (up_ne (by decide) h10) (v := .ref (q 17)) rfl ?_
      refine zr_iload_n X d_O_bring_33 rfl ?_
      refine zr_caload (v := tx i) X 1 d_O_bring_34 (by omega) up_eq rfl (by omega) (by decide) (cpy_out (Or.inl (by omega))) ?_
      refine zr_castore X 1 d_O_bring_35 (by omega) up_eq rfl (by omega) (by decide) (z_charN (htx _)) ?_
      refine zr_iinc (v := nI i - 1) (lv' := [some (.ref (q 10)), some (.int (nI v)), some (.int (nI i - 1))]) X d_O_bring_36 rfl (z_dec _) (by decide) rfl ?_
      refine zr_goto (tgt := 7) X d_O_bring_39 rfl ?_
      have h9 := ih i (by omega) (by omega)
      rw [← cpy_dn (show i < sz by omega)] at h9
      rw [bx_uu]
      exact h9
  refine zr_aload_n X d_O_bring_0 rfl ?_
  refine zr_get X F_O_55 d_O_bring_1 (by omega) h10 (v := .int (nI sz)) rfl ?_
  refine zr_iconst (v := 1) X d_O_bring_4 (by decide) ?_
  refine zr_isub (z := nI sz - 1) X d_O_bring_5 rfl ?_
  refine zr_istore_n (lv' := [some (.ref (q 10)), some (.int (nI v)), some (.int (nI sz - 1))]) X d_O_bring_6 (by decide) rfl ?_
  have h0 := loop1 (sz - p) sz (by omega) (Nat.le_refl _)
  rw [Nat.sub_self, cpy_0, up_self h17] at h0
  exact h0

set_option maxRecDepth 100000 in
set_option maxHeartbeats 4000000 in
theorem c_O_take {l : Launch} {D : va_G} {cI cC cZ cV : ClassId} {N : Nat} {q : Nat → Nat} {f : zF} (hN : 23 ≤ N) {n po th sz ty : Nat} (h10 : f 10 = zmo q n po th sz ty) {pl : Nat → Int32} (h13 : f 13 = .inl (cI, 122, .inl pl)) {mn : Nat → Int32} (h14 : f 14 = .inl (cI, 122, .inl mn)) {tx : Nat → Int32} (h17 : f 17 = .inl (cC, 2000, .inl tx)) (htx : zCh tx) {v p c : Nat} (hv : v < 122) (hp : pl v = nI p) (hc : mn v = nI c) (hps : p + c ≤ sz) (hsz : sz ≤ 2000) : zC l y_O_take b_O_take 3 none (rmD 0 0 0) D (zty cI cC cZ cV) [.ref (q 10), .int (nI v)] N q f (pW N q (va_up (va_up f 10 (zmo q n po th (sz - c) ty)) 17 (.inl (cC, 2000, .inl (va_cpy tx tx (p + c) p (sz - c - p)))))) := by
  refine zC.of (by decide) (by simp [Value.category]) (Nat.le_of_ble_eq_true rfl) (fun G X Y => ?_)
  show G 0 0 0 [some (.ref (q 10)), some (.int (nI v)), none] [] N q f
  have loop : ∀ (d i : Nat), p + i + d = sz - c → G 0 0 22 [some (.ref (q 10)), some (.int (nI v)), some (.int (nI (p + i)))] [] N q (va_up (va_up f 10 (zmo q n po th (sz - c) ty)) 17 (.inl (cC, 2000, .inl (va_cpy tx tx (p + c) p i)))) := by
    intro d
    induction d with
    | zero =>
      intro i hi
      show G 0 0 22 [some (.ref (q 10)), some (.int (nI v)), some (.int (nI (p + i)))] [] N q (va_up (va_up f 10 (zmo q n po th (sz - c) ty)) 17 (.inl (cC, 2000, .inl (va_cpy tx tx (p + c) p i))))
      refine zr_iload_n X d_O_take_22 rfl ?_
      refine zr_aload_n X d_O_take_23 rfl ?_
      refine zr_get X F_O_55 d_O_take_24 (by omega) (up_ne (by decide) up_eq) (v := .int (nI (sz - c))) rfl ?_
      refine zr_icmp_get (tgt := 55) X d_O_take_27 rfl (nI_le (by omega) (by omega)) ?_
      refine zr_return Y d_O_take_55 (Nat.le_of_ble_eq_true rfl) (Nat.le_of_ble_eq_true rfl) ?_
      exact ⟨rfl, rfl, rfl, by rw [show i = sz - c - p by omega]⟩
    | succ d ih =>
      intro i hi
      show G 0 0 22 [some (.ref (q 10)), some (.int (nI v)), some (.int (nI (p + i)))] [] N q (va_up (va_up f 10 (zmo q n po th (sz - c) ty)) 17 (.inl (cC, 2000, .inl (va_cpy tx tx (p + c) p i))))
      refine zr_iload_n X d_O_take_22 rfl ?_
      refine zr_aload_n X d_O_take_23 rfl ?_
      refine zr_get X F_O_55 d_O_take_24 (by omega) (up_ne (by decide) up_eq) (v := .int (nI (sz - c))) rfl ?_
      refine zr_icmp_gef (tgt := 55) X d_O_take_27 rfl (nI_ge (by omega) (by omega)) ?_
      refine zr_aload_n X d_O_take_30 rfl ?_
      refine zr_get X F_O_34 d_O_take_31 (by omega) (up_ne (by decide) up_eq) (v := .ref (q 17)) rfl ?_
      refine zr_iload_n X d_O_take_34 rfl ?_
      refine zr_aload_n X d_O_take_35 rfl ?_
      refine zr_get X F_O_34 d_O_take_36 (by omega) (up_ne (by decide) up_eq) (v := .ref (q 17)) rfl ?_
      refine zr_iload_n X d_O_take_39 rfl ?_
      refine zr_aload_n X d_O_take_40 rfl ?_
      refine zr_get X F_O_24 d_O_take_41 (by omega) (up_ne (by decide) up_eq) (v := .ref (q 14)) rfl ?_
      refine zr_iload_n X d_O_take_44 rfl ?_
      refine zr_iaload (v := nI c) X 0 d_O_take_45 (by omega) (up_ne (by decide) (up_ne (by decide) h14)) rfl (by omega) (by decide) hc ?_
      refine zr_iadd (z := nI ((p + i) + c)) X d_O_take_46 (nI_add _ _) ?_
      refine zr_caload (v := tx (p + c + i)) X 1 d_O_take_47 (by omega) up_eq rfl (by omega) (by decide) ((cpy_out (Or.inr (by omega))).trans (by rw [show p + i + c = p + c + i by omega])) ?_
      refine zr_castore X 1 d_O_take_48 (by omega) up_eq rfl (by omega) (by decide) (z_charN (htx _)) ?_
      refine zr_iinc (v := nI (p + i + 1)) (lv' := [some (.ref (q 10)), some (.int (nI v)), some (.int (nI (p + i + 1)))]) X d_O_take_49 rfl (nI_1 _) (by decide) rfl ?_
      refine zr_goto (tgt := 22) X d_O_take_52 rfl ?_
      have h9 := ih (i + 1) (by omega)
      rw [← cpy_up] at h9
      rw [bx_uu]
      exact h9
  refine zr_aload_n X d_O_take_0 rfl ?_
  refine zr_aload_n X d_O_take_1 rfl ?_
  refine zr_get X F_O_55 d_O_take_2 (by omega) h10 (v := .int (nI sz)) rfl ?_
  refine zr_aload_n X d_O_take_5 rfl ?_
  refine zr_get X F_O_24 d_O_take_6 (by omega) h10 (v := .ref (q 14)) rfl ?_
  refine zr_iload_n X d_O_take_9 rfl ?_
  refine zr_iaload (v := nI c) X 0 d_O_take_10 (by omega) h14 rfl (by omega) (by decide) hc ?_
  refine zr_isub (z := nI (sz - c)) X d_O_take_11 (pk_sub (by omega)) ?_
  refine zr_put (fs' := [.int (nI n), .ref (q 11), .ref (q 12), .ref (q 13), .ref (q 14), .ref (q 15), .int (nI po), .ref (q 16), .int (nI th), .int (nI (sz - c)), .ref (q 17), .ref (q 18), .int (nI ty), .ref (q 19), .ref (q 20), .ref (q 21), .ref (q 22)]) X F_O_55 d_O_take_12 (by omega) h10 rfl rfl (Nat.le_of_ble_eq_true rfl) rfl ?_
  refine zr_aload_n X d_O_take_15 rfl ?_
  refine zr_get X F_O_21 d_O_take_16 (by omega) up_eq (v := .ref (q 13)) rfl ?_
  refine zr_iload_n X d_O_take_19 rfl ?_
  refine zr_iaload (v := nI p) X 0 d_O_take_20 (by omega) (up_ne (by decide) h13) rfl (by omega) (by decide) hp ?_
  refine zr_istore_n (lv' := [some (.ref (q 10)), some (.int (nI v)), some (.int (nI p))]) X d_O_take_21 (by decide) rfl ?_
  have h0 := loop (sz - c - p) 0 (by omega)
  rw [cpy_0, up_self (up_ne (by decide) h17)] at h0
  exact h0

set_option maxRecDepth 100000 in
set_option maxHeartbeats 4000000 in
theorem c_O_moveIn {l : Launch} {D : va_G} {cI cC cZ cV : ClassId} {N : Nat} {q : Nat → Nat} {f : zF} (hN : 23 ≤ N) {n po th sz ty : Nat} (h10 : f 10 = zmo q n po th sz ty) {ma : Nat → Int32} (h21 : f 21 = .inl (cI, 6, .inl ma)) {mr : Nat → Int32} (h22 : f 22 = .inl (cZ, 6, .inl mr)) {P C : Int32} : zC l y_O_moveMarks b_O_moveMarks 6 none (rmD 0 0 0) D (zty cI cC cZ cV) [.ref (q 10), .int P, .int C, .int (nI 1)] N q f (pW N q (va_up f 21 (.inl (cI, 6, .inl (zst 6 (fun m => zcm P C (ma m) (mr m)) ma))))) := by
  refine zC.of (by decide) (by simp [Value.category]) (Nat.le_of_ble_eq_true rfl) (fun G X Y => ?_)
  show G 0 0 0 [some (.ref (q 10)), some (.int P), some (.int C), some (.int (nI 1)), none, none] [] N q f
  have loop : ∀ (d i : Nat) (o : Option Value), i + d = 6 → G 0 0 3 [some (.ref (q 10)), some (.int P), some (.int C), some (.int (nI 1)), some (.int (nI i)), o] [] N q (va_up f 21 (.inl (cI, 6, .inl (zst i (fun m => zcm P C (ma m) (mr m)) ma)))) := by
    intro d
    induction d with
    | zero =>
      intro i o hi
      show G 0 0 3 [some (.ref (q 10)), some (.int P), some (.int C), some (.int (nI 1)), some (.int (nI i)), o] [] N q (va_up f 21 (.inl (cI, 6, .inl (zst i (fun m => zcm P C (ma m) (mr m)) ma))))
      refine zr_iload X d_O_moveMarks_3 rfl ?_
      refine zr_bipush (v := nI 6) X d_O_moveMarks_5 (by decide) ?_
      refine zr_icmp_get (tgt := 104) X d_O_moveMarks_7 rfl (nI_le (by omega) (by omega)) ?_
      refine zr_return Y d_O_moveMarks_104 (Nat.le_of_ble_eq_true rfl) (Nat.le_of_ble_eq_true rfl) ?_
      exact ⟨rfl, rfl, rfl, by rw [show i = 6 by omega]⟩
    | succ d ih =>
      intro i o hi
      show G 0 0 3 [some (.ref (q 10)), some (.int P), some (.int C), some (.int (nI 1)), some (.int (nI i)), o] [] N q (va_up f 21 (.inl (cI, 6, .inl (zst i (fun m => zcm P C (ma m) (mr m)) ma))))
      refine zr_iload X d_O_moveMarks_3 rfl ?_
      refine zr_bipush (v := nI 6) X d_O_moveMarks_5 (by decide) ?_
      refine zr_icmp_gef (tgt := 104) X d_O_moveMarks_7 rfl (nI_ge (by omega) (by decide)) ?_
      refine zr_aload_n X d_O_moveMarks_10 rfl ?_
      refine zr_get X F_O_46 d_O_moveMarks_11 (by omega) (up_ne (by decide) h10) (v := .ref (q 21)) rfl ?_
      refine zr_iload X d_O_moveMarks_14 rfl ?_
      refine zr_iaload (v := ma i) X 0 d_O_moveMarks_16 (by omega) up_eq rfl (by omega) (by decide) zst_at ?_
      refine zr_istore (lv' := [some (.ref (q 10)), some (.int P), some (.int C), some (.int (nI 1)), some (.int (nI i)), some (.int (ma i))]) X d_O_moveMarks_17 (by decide) rfl ?_
      refine zr_iload_n X d_O_moveMarks_19 rfl ?_
      refine zr_if_eqf (tgt := 64) X d_O_moveMarks_20 rfl (by decide) ?_
      refine zr_aload_n X d_O_moveMarks_23 rfl ?_
      refine zr_get X F_O_46 d_O_moveMarks_24 (by omega) (up_ne (by decide) h10) (v := .ref (q 21)) rfl ?_
      refine zr_iload X d_O_moveMarks_27 rfl ?_
      refine zr_iload X d_O_moveMarks_29 rfl ?_
      refine zr_iload_n X d_O_moveMarks_31 rfl ?_
      refine zr_icmp_gt (tgt := 51) X d_O_moveMarks_32 rfl (fun h32 => ?_) (fun h32 => ?_)
      · skip
        refine zr_iload X d_O_moveMarks_51 rfl ?_
        refine zr_iload_n X d_O_moveMarks_53 rfl ?_
        refine zr_iadd (z := (ma i) + C) X d_O_moveMarks_54 rfl ?_
        refine zr_goto (tgt := 60) X d_O_moveMarks_55 rfl ?_
        refine zr_iastore X 0 d_O_moveMarks_60 (by omega) up_eq rfl (by omega) (by decide) ?_
        refine zr_goto (tgt := 98) X d_O_moveMarks_61 rfl ?_
        refine zr_iinc (v := nI (i + 1)) (lv' := [some (.ref (q 10)), some (.int P), some (.int C), some (.int (nI 1)), some (.int (nI (i + 1))), some (.int (ma i))]) X d_O_moveMarks_98 rfl (nI_1 _) (by decide) rfl ?_
        refine zr_goto (tgt := 3) X d_O_moveMarks_101 rfl ?_
        have h9 := ih (i + 1) (some (.int (ma i))) (by omega)
        rw [← zst_up (v := ma i + C) (if_pos (Or.inl h32))] at h9
        rw [bx_uu]
        exact h9
      · skip
        refine zr_iload X d_O_moveMarks_35 rfl ?_
        refine zr_iload_n X d_O_moveMarks_37 rfl ?_
        refine zr_icmp_ne (tgt := 58) X d_O_moveMarks_38 rfl (fun h38 => ?_) (fun h38 => ?_)
        · skip
          refine zr_iload X d_O_moveMarks_58 rfl ?_
          refine zr_iastore X 0 d_O_moveMarks_60 (by omega) up_eq rfl (by omega) (by decide) ?_
          refine zr_goto (tgt := 98) X d_O_moveMarks_61 rfl ?_
          refine zr_iinc (v := nI (i + 1)) (lv' := [some (.ref (q 10)), some (.int P), some (.int C), some (.int (nI 1)), some (.int (nI (i + 1))), some (.int (ma i))]) X d_O_moveMarks_98 rfl (nI_1 _) (by decide) rfl ?_
          refine zr_goto (tgt := 3) X d_O_moveMarks_101 rfl ?_
          have h9 := ih (i + 1) (some (.int (ma i))) (by omega)
          rw [← zst_up (v := ma i) (if_neg (fun h9 => h9.elim h32 (fun h8 => h38 h8.1)))] at h9
          rw [bx_uu]
          exact h9
        · skip
          refine zr_aload_n X d_O_moveMarks_41 rfl ?_
          refine zr_get X F_O_49 d_O_moveMarks_42 (by omega) (up_ne (by decide) h10) (v := .ref (q 22)) rfl ?_
          refine zr_iload X d_O_moveMarks_45 rfl ?_
          refine zr_baload (v := mr i) X 2 d_O_moveMarks_47 (by omega) (up_ne (by decide) h22) rfl (by omega) (by decide) rfl ?_
          refine zr_if_eq (tgt := 58) X d_O_moveMarks_48 rfl (fun h48 => ?_) (fun h48 => ?_)
          · skip
            refine zr_iload X d_O_moveMarks_58 rfl ?_
            refine zr_iastore X 0 d_O_moveMarks_60 (by omega) up_eq rfl (by omega) (by decide) ?_
            refine zr_goto (tgt := 98) X d_O_moveMarks_61 rfl ?_
            refine zr_iinc (v := nI (i + 1)) (lv' := [some (.ref (q 10)), some (.int P), some (.int C), some (.int (nI 1)), some (.int (nI (i + 1))), some (.int (ma i))]) X d_O_moveMarks_98 rfl (nI_1 _) (by decide) rfl ?_
            refine zr_goto (tgt := 3) X d_O_moveMarks_101 rfl ?_
            have h9 := ih (i + 1) (some (.int (ma i))) (by omega)
            rw [← zst_up (v := ma i) (if_neg (fun h9 => h9.elim h32 (fun h8 => h8.2 h48)))] at h9
            rw [bx_uu]
            exact h9
          · skip
            refine zr_iload X d_O_moveMarks_51 rfl ?_
            refine zr_iload_n X d_O_moveMarks_53 rfl ?_
            refine zr_iadd (z := (ma i) + C) X d_O_moveMarks_54 rfl ?_
            refine zr_goto (tgt := 60) X d_O_moveMarks_55 rfl ?_
            refine zr_iastore X 0 d_O_moveMarks_60 (by omega) up_eq rfl (by omega) (by decide) ?_
            refine zr_goto (tgt := 98) X d_O_moveMarks_61 rfl ?_
            refine zr_iinc (v := nI (i + 1)) (lv' := [some (.ref (q 10)), some (.int P), some (.int C), some (.int (nI 1)), some (.int (nI (i + 1))), some (.int (ma i))]) X d_O_moveMarks_98 rfl (nI_1 _) (by decide) rfl ?_
            refine zr_goto (tgt := 3) X d_O_moveMarks_101 rfl ?_
            have h9 := ih (i + 1) (some (.int (ma i))) (by omega)
            rw [← zst_up (v := ma i + C) (if_pos (Or.inr ⟨h38, h48⟩))] at h9
            rw [bx_uu]
            exact h9
  refine zr_iconst (v := nI 0) X d_O_moveMarks_0 (by decide) ?_
  refine zr_istore (lv' := [some (.ref (q 10)), some (.int P), some (.int C), some (.int (nI 1)), some (.int (nI 0)), none]) X d_O_moveMarks_1 (by decide) rfl ?_
  have h0 := loop 6 0 none (by omega)
  rw [zst_0, up_self h21] at h0
  exact h0

set_option maxRecDepth 100000 in
set_option maxHeartbeats 4000000 in
theorem c_O_moveOut {l : Launch} {D : va_G} {cI cC cZ cV : ClassId} {N : Nat} {q : Nat → Nat} {f : zF} (hN : 23 ≤ N) {n po th sz ty : Nat} (h10 : f 10 = zmo q n po th sz ty) {ma : Nat → Int32} (h21 : f 21 = .inl (cI, 6, .inl ma)) {mr : Nat → Int32} (h22 : f 22 = .inl (cZ, 6, .inl mr)) {P C : Int32} : zC l y_O_moveMarks b_O_moveMarks 6 none (rmD 0 0 0) D (zty cI cC cZ cV) [.ref (q 10), .int P, .int C, .int (nI 0)] N q f (pW N q (va_up f 21 (.inl (cI, 6, .inl (zst 6 (fun m => zgm P C (ma m)) ma))))) := by
  refine zC.of (by decide) (by simp [Value.category]) (Nat.le_of_ble_eq_true rfl) (fun G X Y => ?_)
  show G 0 0 0 [some (.ref (q 10)), some (.int P), some (.int C), some (.int (nI 0)), none, none] [] N q f
  have loop : ∀ (d i : Nat) (o : Option Value), i + d = 6 → G 0 0 3 [some (.ref (q 10)), some (.int P), some (.int C), some (.int (nI 0)), some (.int (nI i)), o] [] N q (va_up f 21 (.inl (cI, 6, .inl (zst i (fun m => zgm P C (ma m)) ma)))) := by
    intro d
    induction d with
    | zero =>
      intro i o hi
      show G 0 0 3 [some (.ref (q 10)), some (.int P), some (.int C), some (.int (nI 0)), some (.int (nI i)), o] [] N q (va_up f 21 (.inl (cI, 6, .inl (zst i (fun m => zgm P C (ma m)) ma))))
      refine zr_iload X d_O_moveMarks_3 rfl ?_
      refine zr_bipush (v := nI 6) X d_O_moveMarks_5 (by decide) ?_
      refine zr_icmp_get (tgt := 104) X d_O_moveMarks_7 rfl (nI_le (by omega) (by omega)) ?_
      refine zr_return Y d_O_moveMarks_104 (Nat.le_of_ble_eq_true rfl) (Nat.le_of_ble_eq_true rfl) ?_
      exact ⟨rfl, rfl, rfl, by rw [show i = 6 by omega]⟩
    | succ d ih =>
      intro i o hi
      show G 0 0 3 [some (.ref (q 10)), some (.int P), some (.int C), some (.int (nI 0)), some (.int (nI i)), o] [] N q (va_up f 21 (.inl (cI, 6, .inl (zst i (fun m => zgm P C (ma m)) ma))))
      refine zr_iload X d_O_moveMarks_3 rfl ?_
      refine zr_bipush (v := nI 6) X d_O_moveMarks_5 (by decide) ?_
      refine zr_icmp_gef (tgt := 104) X d_O_moveMarks_7 rfl (nI_ge (by omega) (by decide)) ?_
      refine zr_aload_n X d_O_moveMarks_10 rfl ?_
      refine zr_get X F_O_46 d_O_moveMarks_11 (by omega) (up_ne (by decide) h10) (v := .ref (q 21)) rfl ?_
      refine zr_iload X d_O_moveMarks_14 rfl ?_
      refine zr_iaload (v := ma i) X 0 d_O_moveMarks_16 (by omega) up_eq rfl (by omega) (by decide) zst_at ?_
      refine zr_istore (lv' := [some (.ref (q 10)), some (.int P), some (.int C), some (.int (nI 0)), some (.int (nI i)), some (.int (ma i))]) X d_O_moveMarks_17 (by decide) rfl ?_
      refine zr_iload_n X d_O_moveMarks_19 rfl ?_
      refine zr_if_eqt (tgt := 64) X d_O_moveMarks_20 rfl (by decide) ?_
      refine zr_aload_n X d_O_moveMarks_64 rfl ?_
      refine zr_get X F_O_46 d_O_moveMarks_65 (by omega) (up_ne (by decide) h10) (v := .ref (q 21)) rfl ?_
      refine zr_iload X d_O_moveMarks_68 rfl ?_
      refine zr_iload X d_O_moveMarks_70 rfl ?_
      refine zr_iload_n X d_O_moveMarks_72 rfl ?_
      refine zr_iload_n X d_O_moveMarks_73 rfl ?_
      refine zr_iadd (z := P + C) X d_O_moveMarks_74 rfl ?_
      refine zr_icmp_lt (tgt := 85) X d_O_moveMarks_75 rfl (fun h75 => ?_) (fun h75 => ?_)
      · skip
        refine zr_iload X d_O_moveMarks_85 rfl ?_
        refine zr_iload_n X d_O_moveMarks_87 rfl ?_
        refine zr_icmp_le (tgt := 95) X d_O_moveMarks_88 rfl (fun h88 => ?_) (fun h88 => ?_)
        · skip
          refine zr_iload X d_O_moveMarks_95 rfl ?_
          refine zr_iastore X 0 d_O_moveMarks_97 (by omega) up_eq rfl (by omega) (by decide) ?_
          refine zr_iinc (v := nI (i + 1)) (lv' := [some (.ref (q 10)), some (.int P), some (.int C), some (.int (nI 0)), some (.int (nI (i + 1))), some (.int (ma i))]) X d_O_moveMarks_98 rfl (nI_1 _) (by decide) rfl ?_
          refine zr_goto (tgt := 3) X d_O_moveMarks_101 rfl ?_
          have h9 := ih (i + 1) (some (.int (ma i))) (by omega)
          rw [← zst_up (v := ma i) ((if_neg (fun h9 => h9 h75)).trans (if_neg (fun h9 => h9 h88)))] at h9
          rw [bx_uu]
          exact h9
        · skip
          refine zr_iload_n X d_O_moveMarks_91 rfl ?_
          refine zr_goto (tgt := 97) X d_O_moveMarks_92 rfl ?_
          refine zr_iastore X 0 d_O_moveMarks_97 (by omega) up_eq rfl (by omega) (by decide) ?_
          refine zr_iinc (v := nI (i + 1)) (lv' := [some (.ref (q 10)), some (.int P), some (.int C), some (.int (nI 0)), some (.int (nI (i + 1))), some (.int (ma i))]) X d_O_moveMarks_98 rfl (nI_1 _) (by decide) rfl ?_
          refine zr_goto (tgt := 3) X d_O_moveMarks_101 rfl ?_
          have h9 := ih (i + 1) (some (.int (ma i))) (by omega)
          rw [← zst_up (v := P) ((if_neg (fun h9 => h9 h75)).trans (if_pos h88))] at h9
          rw [bx_uu]
          exact h9
      · skip
        refine zr_iload X d_O_moveMarks_78 rfl ?_
        refine zr_iload_n X d_O_moveMarks_80 rfl ?_
        refine zr_isub (z := (ma i) - C) X d_O_moveMarks_81 rfl ?_
        refine zr_goto (tgt := 97) X d_O_moveMarks_82 rfl ?_
        refine zr_iastore X 0 d_O_moveMarks_97 (by omega) up_eq rfl (by omega) (by decide) ?_
        refine zr_iinc (v := nI (i + 1)) (lv' := [some (.ref (q 10)), some (.int P), some (.int C), some (.int (nI 0)), some (.int (nI (i + 1))), some (.int (ma i))]) X d_O_moveMarks_98 rfl (nI_1 _) (by decide) rfl ?_
        refine zr_goto (tgt := 3) X d_O_moveMarks_101 rfl ?_
        have h9 := ih (i + 1) (some (.int (ma i))) (by omega)
        rw [← zst_up (v := ma i - C) (if_pos h75)] at h9
        rw [bx_uu]
        exact h9
  refine zr_iconst (v := nI 0) X d_O_moveMarks_0 (by decide) ?_
  refine zr_istore (lv' := [some (.ref (q 10)), some (.int P), some (.int C), some (.int (nI 0)), some (.int (nI 0)), none]) X d_O_moveMarks_1 (by decide) rfl ?_
  have h0 := loop 6 0 none (by omega)
  rw [zst_0, up_self h21] at h0
  exact h0
