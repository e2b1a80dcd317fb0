/-- the store behind an edit that made version n: piece at N, version at N + 1 -/
def zNewP (cC cI cV : ClassId) (N : Nat) (q : Nat → Nat) (f : zF) (n ins jt num at_ jp9 cc : Nat) (com : Int32) (pr : Value) (b : Bool) (p c sz : Nat) (gp tx mp mr : Nat → Int32) (md : Nat → Option Nat) (N' : Nat) (q' : Nat → Nat) (f' : zF) : Prop := N' = N + 2 ∧ (∃ a1 a2, q' = va_up (va_up q N a1) (N + 1) a2) ∧ f' N = .inl (cC, c, .inl gp) ∧ f' (N + 1) = zver q' n (.ref (q' jt)) (zbi b) p N 0 .null ∧ f' 8 = .inl (cV, 122, .inr (.inr (.inr (.inr (va_up md n (some (q' (N + 1)))))))) ∧ f' 0 = zbo q' (n + 1) ins (N + 1) ∧ f' jt = zver q' num pr com at_ jp9 (cc + 1) (.ref (q' (N + 1))) ∧ f' 2 = .inl (cC, 2000, .inl (zoT b tx gp p c sz)) ∧ f' 1 = zrow q' 2 (zoS b sz c) ∧ f' 6 = .inl (cI, 6, .inl (zoM b p c mp mr)) ∧ ∀ jj, jj < N → 2 < jj → jj ≠ 6 → jj ≠ 8 → jj ≠ jt → f' jj = f jj

set_option maxRecDepth 100000 in
set_option maxHeartbeats 4000000 in
theorem c_B_insert_n {l : Launch} {D : va_G} {cI cC cZ cV : ClassId} {N : Nat} {q : Nat → Nat} {f : zF} (hN : 23 ≤ N) {n ins jt : Nat} (h0 : f 0 = zbo q n ins jt) {sz : Nat} (h1 : f 1 = zrow q 2 sz) {x : Int32} (hx : zNo x sz) : zC l y_B_insert b_B_insert 2 (some .int) (rmD 5 2 2007) D (zty cI cC cZ cV) [.ref (q 0), .int x] N q f (pRd N q f (-1)) := by
  refine zC.of (by decide) (by simp [Value.category]) (Nat.le_of_ble_eq_true rfl) (fun G X Y => ?_)
  show G 0 0 0 [some (.ref (q 0)), some (.int x)] [] N q f
  refine zr_aload_n X d_B_insert_0 rfl ?_
  refine zr_get X F_B_14 d_B_insert_1 (by omega) h0 (v := .ref (q 1)) rfl ?_
  refine zr_iload_n X d_B_insert_4 rfl ?_
  refine zr_callV X K_B_72 KI_B_72 KS_B_72 (c_R_hasPosition_n (by omega) h1 hx) d_B_insert_5 (by omega) h1 rfl rfl (by decide) (Nat.le_of_ble_eq_true rfl) (by decide) (st := []) rfl (kRd ?_)
  show G 0 0 8 [some (.ref (q 0)), some (.int x)] [.int (nI 0)] N q f
  refine zr_if_nef (tgt := 13) X d_B_insert_8 rfl (by decide) ?_
  refine zr_iconst (v := (-1)) X d_B_insert_11 (by decide) ?_
  refine zr_ireturn Y d_B_insert_12 rfl (Nat.le_of_ble_eq_true rfl) (Nat.le_of_ble_eq_true rfl) ?_
  exact ⟨rfl, rfl, rfl, rfl⟩

set_option maxRecDepth 100000 in
set_option maxHeartbeats 4000000 in
theorem c_B_insert_e {l : Launch} {D : va_G} {cI cC cZ cV : ClassId} {N : Nat} {q : Nat → Nat} {f : zF} (hN : 23 ≤ N) {n ins jt : Nat} (h0 : f 0 = zbo q n ins jt) {sz : Nat} (h1 : f 1 = zrow q 2 sz) {k : Nat} (h3 : f 3 = zrow q 4 k) {p : Nat} (hp : p ≤ sz) (hs : sz ≤ 2000) (hk0 : k = 0) : zC l y_B_insert b_B_insert 2 (some .int) (rmD 5 2 2007) D (zty cI cC cZ cV) [.ref (q 0), .int (nI p)] N q f (pRd N q f (-2)) := by
  refine zC.of (by decide) (by simp [Value.category]) (Nat.le_of_ble_eq_true rfl) (fun G X Y => ?_)
  show G 0 0 0 [some (.ref (q 0)), some (.int (nI p))] [] N q f
  refine zr_aload_n X d_B_insert_0 rfl ?_
  refine zr_get X F_B_14 d_B_insert_1 (by omega) h0 (v := .ref (q 1)) rfl ?_
  refine zr_iload_n X d_B_insert_4 rfl ?_
  refine zr_callV X K_B_72 KI_B_72 KS_B_72 (c_R_hasPosition_y (by omega) h1 (by omega) hp) d_B_insert_5 (by omega) h1 rfl rfl (by decide) (Nat.le_of_ble_eq_true rfl) (by decide) (st := []) rfl (kRd ?_)
  show G 0 0 8 [some (.ref (q 0)), some (.int (nI p))] [.int (nI 1)] N q f
  refine zr_if_net (tgt := 13) X d_B_insert_8 rfl (by decide) ?_
  refine zr_aload_n X d_B_insert_13 rfl ?_
  refine zr_get X F_B_18 d_B_insert_14 (by omega) h0 (v := .ref (q 3)) rfl ?_
  refine zr_get X F_B_55 d_B_insert_17 (by omega) h3 (v := .int (nI k)) rfl ?_
  refine zr_if_nef (tgt := 26) X d_B_insert_20 rfl (by rw [hk0]; rfl) ?_
  refine zr_bipush (v := (-2)) X d_B_insert_23 (by decide) ?_
  refine zr_ireturn Y d_B_insert_25 rfl (Nat.le_of_ble_eq_true rfl) (Nat.le_of_ble_eq_true rfl) ?_
  exact ⟨rfl, rfl, rfl, rfl⟩

set_option maxRecDepth 100000 in
set_option maxHeartbeats 4000000 in
theorem c_B_insert_f1 {l : Launch} {D : va_G} {cI cC cZ cV : ClassId} {N : Nat} {q : Nat → Nat} {f : zF} (hN : 23 ≤ N) {n ins jt : Nat} (h0 : f 0 = zbo q n ins jt) {sz : Nat} (h1 : f 1 = zrow q 2 sz) {k : Nat} (h3 : f 3 = zrow q 4 k) {p : Nat} (hp : p ≤ sz) (hs : sz ≤ 2000) (hk0 : 0 < k) (hk : k ≤ 40) (hn : n = 122) : zC l y_B_insert b_B_insert 2 (some .int) (rmD 5 2 2007) D (zty cI cC cZ cV) [.ref (q 0), .int (nI p)] N q f (pRd N q f (-3)) := by
  refine zC.of (by decide) (by simp [Value.category]) (Nat.le_of_ble_eq_true rfl) (fun G X Y => ?_)
  show G 0 0 0 [some (.ref (q 0)), some (.int (nI p))] [] N q f
  refine zr_aload_n X d_B_insert_0 rfl ?_
  refine zr_get X F_B_14 d_B_insert_1 (by omega) h0 (v := .ref (q 1)) rfl ?_
  refine zr_iload_n X d_B_insert_4 rfl ?_
  refine zr_callV X K_B_72 KI_B_72 KS_B_72 (c_R_hasPosition_y (by omega) h1 (by omega) hp) d_B_insert_5 (by omega) h1 rfl rfl (by decide) (Nat.le_of_ble_eq_true rfl) (by decide) (st := []) rfl (kRd ?_)
  show G 0 0 8 [some (.ref (q 0)), some (.int (nI p))] [.int (nI 1)] N q f
  refine zr_if_net (tgt := 13) X d_B_insert_8 rfl (by decide) ?_
  refine zr_aload_n X d_B_insert_13 rfl ?_
  refine zr_get X F_B_18 d_B_insert_14 (by omega) h0 (v := .ref (q 3)) rfl ?_
  refine zr_get X F_B_55 d_B_insert_17 (by omega) h3 (v := .int (nI k)) rfl ?_
  refine zr_if_net (tgt := 26) X d_B_insert_20 rfl (nI_ne0 hk0 (by omega)) ?_
  refine zr_aload_n X d_B_insert_26 rfl ?_
  refine zr_get X F_B_44 d_B_insert_27 (by omega) h0 (v := .int (nI n)) rfl ?_
  refine zr_bipush (v := nI 122) X d_B_insert_30 (by decide) ?_
  refine zr_icmp_eqt (tgt := 53) X d_B_insert_32 rfl (by rw [hn]) ?_
  refine zr_bipush (v := (-3)) X d_B_insert_53 (by decide) ?_
  refine zr_ireturn Y d_B_insert_55 rfl (Nat.le_of_ble_eq_true rfl) (Nat.le_of_ble_eq_true rfl) ?_
  exact ⟨rfl, rfl, rfl, rfl⟩

set_option maxRecDepth 100000 in
set_option maxHeartbeats 4000000 in
theorem c_B_insert_f2 {l : Launch} {D : va_G} {cI cC cZ cV : ClassId} {N : Nat} {q : Nat → Nat} {f : zF} (hN : 23 ≤ N) {n ins jt : Nat} (h0 : f 0 = zbo q n ins jt) {sz : Nat} (h1 : f 1 = zrow q 2 sz) {k : Nat} (h3 : f 3 = zrow q 4 k) {p : Nat} (hp : p ≤ sz) (hs : sz ≤ 2000) (hk0 : 0 < k) (hk : k ≤ 40) (hn : n < 122) (hi : ins ≤ 2000) (hik : 2000 < ins + k) : zC l y_B_insert b_B_insert 2 (some .int) (rmD 5 2 2007) D (zty cI cC cZ cV) [.ref (q 0), .int (nI p)] N q f (pRd N q f (-3)) := by
  refine zC.of (by decide) (by simp [Value.category]) (Nat.le_of_ble_eq_true rfl) (fun G X Y => ?_)
  show G 0 0 0 [some (.ref (q 0)), some (.int (nI p))] [] N q f
  refine zr_aload_n X d_B_insert_0 rfl ?_
  refine zr_get X F_B_14 d_B_insert_1 (by omega) h0 (v := .ref (q 1)) rfl ?_
  refine zr_iload_n X d_B_insert_4 rfl ?_
  refine zr_callV X K_B_72 KI_B_72 KS_B_72 (c_R_hasPosition_y (by omega) h1 (by omega) hp) d_B_insert_5 (by omega) h1 rfl rfl (by decide) (Nat.le_of_ble_eq_true rfl) (by decide) (st := []) rfl (kRd ?_)
  show G 0 0 8 [some (.ref (q 0)), some (.int (nI p))] [.int (nI 1)] N q f
  refine zr_if_net (tgt := 13) X d_B_insert_8 rfl (by decide) ?_
  refine zr_aload_n X d_B_insert_13 rfl ?_
  refine zr_get X F_B_18 d_B_insert_14 (by omega) h0 (v := .ref (q 3)) rfl ?_
  refine zr_get X F_B_55 d_B_insert_17 (by omega) h3 (v := .int (nI k)) rfl ?_
  refine zr_if_net (tgt := 26) X d_B_insert_20 rfl (nI_ne0 hk0 (by omega)) ?_
  refine zr_aload_n X d_B_insert_26 rfl ?_
  refine zr_get X F_B_44 d_B_insert_27 (by omega) h0 (v := .int (nI n)) rfl ?_
  refine zr_bipush (v := nI 122) X d_B_insert_30 (by decide) ?_
  refine zr_icmp_eqf (tgt := 53) X d_B_insert_32 rfl (fun h9 => absurd ((nI_eq (by omega) (by decide)).mp h9) (by omega)) ?_
  refine zr_aload_n X d_B_insert_35 rfl ?_
  refine zr_get X F_B_48 d_B_insert_36 (by omega) h0 (v := .int (nI ins)) rfl ?_
  refine zr_aload_n X d_B_insert_39 rfl ?_
  refine zr_get X F_B_18 d_B_insert_40 (by omega) h0 (v := .ref (q 3)) rfl ?_
  refine zr_get X F_B_55 d_B_insert_43 (by omega) h3 (v := .int (nI k)) rfl ?_
  refine zr_iadd (z := nI (ins + k)) X d_B_insert_46 (nI_add _ _) ?_
  refine zr_sipush (v := nI 2000) X d_B_insert_47 (by decide) ?_
  refine zr_icmp_lef (tgt := 56) X d_B_insert_50 rfl (nI_ge hik (by omega)) ?_
  refine zr_bipush (v := (-3)) X d_B_insert_53 (by decide) ?_
  refine zr_ireturn Y d_B_insert_55 rfl (Nat.le_of_ble_eq_true rfl) (Nat.le_of_ble_eq_true rfl) ?_
  exact ⟨rfl, rfl, rfl, rfl⟩

set_option maxRecDepth 100000 in
set_option maxHeartbeats 4000000 in
theorem c_B_delete_n {l : Launch} {D : va_G} {cI cC cZ cV : ClassId} {N : Nat} {q : Nat → Nat} {f : zF} (hN : 23 ≤ N) {n ins jt : Nat} (h0 : f 0 = zbo q n ins jt) {sz : Nat} (h1 : f 1 = zrow q 2 sz) {x y : Int32} (hs : sz < 2 ^ 31) (hx : zNoS x y sz) : zC l y_B_delete b_B_delete 3 (some .int) (rmD 5 2 2007) D (zty cI cC cZ cV) [.ref (q 0), .int x, .int y] N q f (pRd N q f (-1)) := by
  refine zC.of (by decide) (by simp [Value.category]) (Nat.le_of_ble_eq_true rfl) (fun G X Y => ?_)
  show G 0 0 0 [some (.ref (q 0)), some (.int x), some (.int y)] [] N q f
  refine zr_aload_n X d_B_delete_0 rfl ?_
  refine zr_get X F_B_14 d_B_delete_1 (by omega) h0 (v := .ref (q 1)) rfl ?_
  refine zr_iload_n X d_B_delete_4 rfl ?_
  refine zr_iload_n X d_B_delete_5 rfl ?_
  refine zr_callV X K_B_62 KI_B_62 KS_B_62 (c_R_hasStretch_n (by omega) h1 hs hx) d_B_delete_6 (by omega) h1 rfl rfl (by decide) (Nat.le_of_ble_eq_true rfl) (by decide) (st := []) rfl (kRd ?_)
  show G 0 0 9 [some (.ref (q 0)), some (.int x), some (.int y)] [.int (nI 0)] N q f
  refine zr_if_nef (tgt := 14) X d_B_delete_9 rfl (by decide) ?_
  refine zr_iconst (v := (-1)) X d_B_delete_12 (by decide) ?_
  refine zr_ireturn Y d_B_delete_13 rfl (Nat.le_of_ble_eq_true rfl) (Nat.le_of_ble_eq_true rfl) ?_
  exact ⟨rfl, rfl, rfl, rfl⟩

set_option maxRecDepth 100000 in
set_option maxHeartbeats 4000000 in
theorem c_B_delete_e {l : Launch} {D : va_G} {cI cC cZ cV : ClassId} {N : Nat} {q : Nat → Nat} {f : zF} (hN : 23 ≤ N) {n ins jt : Nat} (h0 : f 0 = zbo q n ins jt) {sz : Nat} (h1 : f 1 = zrow q 2 sz) {p c : Nat} (hp : p + c ≤ sz) (hs : sz ≤ 2000) (hc0 : c = 0) : zC l y_B_delete b_B_delete 3 (some .int) (rmD 5 2 2007) D (zty cI cC cZ cV) [.ref (q 0), .int (nI p), .int (nI c)] N q f (pRd N q f (-2)) := by
  refine zC.of (by decide) (by simp [Value.category]) (Nat.le_of_ble_eq_true rfl) (fun G X Y => ?_)
  show G 0 0 0 [some (.ref (q 0)), some (.int (nI p)), some (.int (nI c))] [] N q f
  refine zr_aload_n X d_B_delete_0 rfl ?_
  refine zr_get X F_B_14 d_B_delete_1 (by omega) h0 (v := .ref (q 1)) rfl ?_
  refine zr_iload_n X d_B_delete_4 rfl ?_
  refine zr_iload_n X d_B_delete_5 rfl ?_
  refine zr_callV X K_B_62 KI_B_62 KS_B_62 (c_R_hasStretch_y (by omega) h1 (by omega) hp) d_B_delete_6 (by omega) h1 rfl rfl (by decide) (Nat.le_of_ble_eq_true rfl) (by decide) (st := []) rfl (kRd ?_)
  show G 0 0 9 [some (.ref (q 0)), some (.int (nI p)), some (.int (nI c))] [.int (nI 1)] N q f
  refine zr_if_net (tgt := 14) X d_B_delete_9 rfl (by decide) ?_
  refine zr_iload_n X d_B_delete_14 rfl ?_
  refine zr_if_nef (tgt := 21) X d_B_delete_15 rfl (by rw [hc0]; rfl) ?_
  refine zr_bipush (v := (-2)) X d_B_delete_18 (by decide) ?_
  refine zr_ireturn Y d_B_delete_20 rfl (Nat.le_of_ble_eq_true rfl) (Nat.le_of_ble_eq_true rfl) ?_
  exact ⟨rfl, rfl, rfl, rfl⟩

set_option maxRecDepth 100000 in
set_option maxHeartbeats 4000000 in
theorem c_B_delete_f {l : Launch} {D : va_G} {cI cC cZ cV : ClassId} {N : Nat} {q : Nat → Nat} {f : zF} (hN : 23 ≤ N) {n ins jt : Nat} (h0 : f 0 = zbo q n ins jt) {sz : Nat} (h1 : f 1 = zrow q 2 sz) {p c : Nat} (hp : p + c ≤ sz) (hs : sz ≤ 2000) (hc0 : 0 < c) (hn : n = 122) : zC l y_B_delete b_B_delete 3 (some .int) (rmD 5 2 2007) D (zty cI cC cZ cV) [.ref (q 0), .int (nI p), .int (nI c)] N q f (pRd N q f (-3)) := by
  refine zC.of (by decide) (by simp [Value.category]) (Nat.le_of_ble_eq_true rfl) (fun G X Y => ?_)
  show G 0 0 0 [some (.ref (q 0)), some (.int (nI p)), some (.int (nI c))] [] N q f
  refine zr_aload_n X d_B_delete_0 rfl ?_
  refine zr_get X F_B_14 d_B_delete_1 (by omega) h0 (v := .ref (q 1)) rfl ?_
  refine zr_iload_n X d_B_delete_4 rfl ?_
  refine zr_iload_n X d_B_delete_5 rfl ?_
  refine zr_callV X K_B_62 KI_B_62 KS_B_62 (c_R_hasStretch_y (by omega) h1 (by omega) hp) d_B_delete_6 (by omega) h1 rfl rfl (by decide) (Nat.le_of_ble_eq_true rfl) (by decide) (st := []) rfl (kRd ?_)
  show G 0 0 9 [some (.ref (q 0)), some (.int (nI p)), some (.int (nI c))] [.int (nI 1)] N q f
  refine zr_if_net (tgt := 14) X d_B_delete_9 rfl (by decide) ?_
  refine zr_iload_n X d_B_delete_14 rfl ?_
  refine zr_if_net (tgt := 21) X d_B_delete_15 rfl (nI_ne0 hc0 (by omega)) ?_
  refine zr_aload_n X d_B_delete_21 rfl ?_
  refine zr_get X F_B_44 d_B_delete_22 (by omega) h0 (v := .int (nI n)) rfl ?_
  refine zr_bipush (v := nI 122) X d_B_delete_25 (by decide) ?_
  refine zr_icmp_nef (tgt := 33) X d_B_delete_27 rfl (by rw [hn]) ?_
  refine zr_bipush (v := (-3)) X d_B_delete_30 (by decide) ?_
  refine zr_ireturn Y d_B_delete_32 rfl (Nat.le_of_ble_eq_true rfl) (Nat.le_of_ble_eq_true rfl) ?_
  exact ⟨rfl, rfl, rfl, rfl⟩

set_option maxRecDepth 100000 in
set_option maxHeartbeats 4000000 in
theorem c_B_insert_y {l : Launch} {D : va_G} {cI cC cZ cV : ClassId} {N : Nat} {q : Nat → Nat} {f : zF} (hN : 23 ≤ N) {n ins jt : Nat} (h0 : f 0 = zbo q n ins jt) {sz : Nat} (h1 : f 1 = zrow q 2 sz) {tx : Nat → Int32} (h2 : f 2 = .inl (cC, 2000, .inl tx)) {k : Nat} (h3 : f 3 = zrow q 4 k) {sc : Nat → Int32} (h4 : f 4 = .inl (cC, 40, .inl sc))  (h5 : f 5 = .inr (iM, [.ref (q 6), .ref (q 7)])) {mp : Nat → Int32} (h6 : f 6 = .inl (cI, 6, .inl mp)) {mr : Nat → Int32} (h7 : f 7 = .inl (cZ, 6, .inl mr)) {md : Nat → Option Nat} (h8 : f 8 = .inl (cV, 122, .inr (.inr (.inr (.inr md))))) {num cc at_ jp9 : Nat} {com : Int32} {pr lat : Value} (hjt : jt < N) (hjt23 : 23 ≤ jt) (hjp9 : jp9 < N) (hv : f jt = zver q num pr com at_ jp9 cc lat) {p : Nat} (hp : p ≤ sz) (hs : sz ≤ 2000) (hk0 : 0 < k) (hk : k ≤ 40) (hn : n < 122) (hik : ins + k ≤ 2000) (hok : zoK true p k sz) (htx : zCh tx) (hsc : zCh sc) : zC l y_B_insert b_B_insert 2 (some .int) (rmD 5 2 2007) D (zty cI cC cZ cV) [.ref (q 0), .int (nI p)] N q f (fun v N' q' f' => v = some (.int (nI n)) ∧ zNewP cC cI cV N q f n (ins + k) jt num at_ jp9 cc com pr true p k sz (va_cpy sc (fun _ => 0) 0 0 k) tx mp mr md N' q' f') := by
  refine zC.of (by decide) (by simp [Value.category]) (Nat.le_of_ble_eq_true rfl) (fun G X Y => ?_)
  show G 0 0 0 [some (.ref (q 0)), some (.int (nI p))] [] N q f
  refine zr_aload_n X d_B_insert_0 rfl ?_
  refine zr_get X F_B_14 d_B_insert_1 (by omega) h0 (v := .ref (q 1)) rfl ?_
  refine zr_iload_n X d_B_insert_4 rfl ?_
  refine zr_callV X K_B_72 KI_B_72 KS_B_72 (c_R_hasPosition_y (by omega) h1 (by omega) hp) d_B_insert_5 (by omega) h1 rfl rfl (by decide) (Nat.le_of_ble_eq_true rfl) (by decide) (st := []) rfl (kRd ?_)
  show G 0 0 8 [some (.ref (q 0)), some (.int (nI p))] [.int (nI 1)] N q f
  refine zr_if_net (tgt := 13) X d_B_insert_8 rfl (by decide) ?_
  refine zr_aload_n X d_B_insert_13 rfl ?_
  refine zr_get X F_B_18 d_B_insert_14 (by omega) h0 (v := .ref (q 3)) rfl ?_
  refine zr_get X F_B_55 d_B_insert_17 (by omega) h3 (v := .int (nI k)) rfl ?_
  refine zr_if_net (tgt := 26) X d_B_insert_20 rfl (nI_ne0 hk0 (by omega)) ?_
  refine zr_aload_n X d_B_insert_26 rfl ?_
  refine zr_get X F_B_44 d_B_insert_27 (by omega) h0 (v := .int (nI n)) rfl ?_
  refine zr_bipush (v := nI 122) X d_B_insert_30 (by decide) ?_
  refine zr_icmp_eqf (tgt := 53) X d_B_insert_32 rfl (fun h9 => absurd ((nI_eq (by omega) (by decide)).mp h9) (by omega)) ?_
  refine zr_aload_n X d_B_insert_35 rfl ?_
  refine zr_get X F_B_48 d_B_insert_36 (by omega) h0 (v := .int (nI ins)) rfl ?_
  refine zr_aload_n X d_B_insert_39 rfl ?_
  refine zr_get X F_B_18 d_B_insert_40 (by omega) h0 (v := .ref (q 3)) rfl ?_
  refine zr_get X F_B_55 d_B_insert_43 (by omega) h3 (v := .int (nI k)) rfl ?_
  refine zr_iadd (z := nI (ins + k)) X d_B_insert_46 (nI_add _ _) ?_
  refine zr_sipush (v := nI 2000) X d_B_insert_47 (by decide) ?_
  refine zr_icmp_let (tgt := 56) X d_B_insert_50 rfl (nI_le hik (by decide)) ?_
  refine zr_aload_n X d_B_insert_56 rfl ?_
  refine zr_dup X d_B_insert_57 rfl ?_
  refine zr_get X F_B_48 d_B_insert_58 (by omega) h0 (v := .int (nI ins)) rfl ?_
  refine zr_aload_n X d_B_insert_61 rfl ?_
  refine zr_get X F_B_18 d_B_insert_62 (by omega) h0 (v := .ref (q 3)) rfl ?_
  refine zr_get X F_B_55 d_B_insert_65 (by omega) h3 (v := .int (nI k)) rfl ?_
  refine zr_iadd (z := nI (ins + k)) X d_B_insert_68 (nI_add _ _) ?_
  refine zr_put (fs' := [.ref (q 1), .ref (q 3), .ref (q 5), .ref (q 8), .ref (q 9), .int (nI n), .int (nI (ins + k)), .ref (q jt)]) X F_B_48 d_B_insert_69 (by omega) h0 rfl rfl (Nat.le_of_ble_eq_true rfl) rfl ?_
  obtain ⟨f1, ef1⟩ : ∃ z, z = va_up f 0 (.inr (iB, [.ref (q 1), .ref (q 3), .ref (q 5), .ref (q 8), .ref (q 9), .int (nI n), .int (nI (ins + k)), .ref (q jt)])) := ⟨_, rfl⟩
  rw [← ef1]
  have s1_0 : f1 0 = .inr (iB, [.ref (q 1), .ref (q 3), .ref (q 5), .ref (q 8), .ref (q 9), .int (nI n), .int (nI (ins + k)), .ref (q jt)]) := by rw [ef1]; exact up_eq
  have s1_1 : f1 1 = .inr (iR, [.ref (q 2), .int (nI sz)]) := by rw [ef1]; exact (up_ne (by decide) h1)
  have s1_2 : f1 2 = .inl (cC, 2000, .inl tx) := by rw [ef1]; exact (up_ne (by decide) h2)
  have s1_3 : f1 3 = .inr (iR, [.ref (q 4), .int (nI k)]) := by rw [ef1]; exact (up_ne (by decide) h3)
  have s1_4 : f1 4 = .inl (cC, 40, .inl sc) := by rw [ef1]; exact (up_ne (by decide) h4)
  have s1_5 : f1 5 = .inr (iM, [.ref (q 6), .ref (q 7)]) := by rw [ef1]; exact (up_ne (by decide) h5)
  have s1_6 : f1 6 = .inl (cI, 6, .inl mp) := by rw [ef1]; exact (up_ne (by decide) h6)
  have s1_7 : f1 7 = .inl (cZ, 6, .inl mr) := by rw [ef1]; exact (up_ne (by decide) h7)
  have s1_8 : f1 8 = .inl (cV, 122, .inr (.inr (.inr (.inr md)))) := by rw [ef1]; exact (up_ne (by decide) h8)
  have s1_jt : f1 jt = .inr (iV, [.int (nI num), pr, .int com, .int (nI at_), .ref (q jp9), .int (nI cc), lat]) := by rw [ef1]; exact (up_ne (by omega) hv)
  refine zr_aload_n X d_B_insert_72 rfl ?_
  refine zr_iconst (v := zbi true) X d_B_insert_73 (by decide) ?_
  refine zr_iload_n X d_B_insert_74 rfl ?_
  refine zr_aload_n X d_B_insert_75 rfl ?_
  refine zr_get X F_B_18 d_B_insert_76 (by omega) s1_0 (v := .ref (q 3)) rfl ?_
  refine zr_iconst (v := nI 0) X d_B_insert_79 (by decide) ?_
  refine zr_aload_n X d_B_insert_80 rfl ?_
  refine zr_get X F_B_18 d_B_insert_81 (by omega) s1_0 (v := .ref (q 3)) rfl ?_
  refine zr_get X F_B_55 d_B_insert_84 (by omega) s1_3 (v := .int (nI k)) rfl ?_
  refine zr_callV X K_B_76 KI_B_76 KS_B_76 (c_R_pieceOf (by omega) s1_3 (by omega) s1_4 hsc (by decide) (by omega) (by omega)) d_B_insert_87 (by omega) s1_3 rfl rfl (by decide) (Nat.le_of_ble_eq_true rfl) (by decide) (st := [.int (nI p), .int (zbi true), .ref (q 0)]) rfl (fun v9 N9 q9 f9 hr9 => ?_)
  obtain ⟨a2, rfl, rfl, rfl, rfl⟩ := hr9
  show G (0 + 1) (0 + 2000) 90 [some (.ref (q 0)), some (.int (nI p))] (.ref a2 :: [.int (nI p), .int (zbi true), .ref (q 0)]) (N + 1) (va_up q N a2) (va_up f1 N (.inl (cC, k, .inl (va_cpy sc (fun _ => 0) 0 0 k))))
  generalize hq2 : va_up q N a2 = q2
  have e2_1 : q 1 = q2 1 := by rw [← hq2, up_ne' (by omega)]
  have e2_3 : q 3 = q2 3 := by rw [← hq2, up_ne' (by omega)]
  have e2_5 : q 5 = q2 5 := by rw [← hq2, up_ne' (by omega)]
  have e2_8 : q 8 = q2 8 := by rw [← hq2, up_ne' (by omega)]
  have e2_9 : q 9 = q2 9 := by rw [← hq2, up_ne' (by omega)]
  have e2_jt : q jt = q2 jt := by rw [← hq2, up_ne' (by omega)]
  have e2_2 : q 2 = q2 2 := by rw [← hq2, up_ne' (by omega)]
  have e2_4 : q 4 = q2 4 := by rw [← hq2, up_ne' (by omega)]
  have e2_6 : q 6 = q2 6 := by rw [← hq2, up_ne' (by omega)]
  have e2_7 : q 7 = q2 7 := by rw [← hq2, up_ne' (by omega)]
  have e2_jp9 : q jp9 = q2 jp9 := by rw [← hq2, up_ne' (by omega)]
  have e2_0 : q 0 = q2 0 := by rw [← hq2, up_ne' (by omega)]
  have e2_n : a2 = q2 N := by rw [← hq2, up_eq]
  simp only [zbo, zrow, zver, e2_1, e2_3, e2_5, e2_8, e2_9, e2_jt, e2_2, e2_4, e2_6, e2_7, e2_jp9, e2_0] at s1_0
  simp only [zbo, zrow, zver, e2_1, e2_3, e2_5, e2_8, e2_9, e2_jt, e2_2, e2_4, e2_6, e2_7, e2_jp9, e2_0] at s1_1
  simp only [zbo, zrow, zver, e2_1, e2_3, e2_5, e2_8, e2_9, e2_jt, e2_2, e2_4, e2_6, e2_7, e2_jp9, e2_0] at s1_3
  simp only [zbo, zrow, zver, e2_1, e2_3, e2_5, e2_8, e2_9, e2_jt, e2_2, e2_4, e2_6, e2_7, e2_jp9, e2_0] at s1_5
  simp only [zbo, zrow, zver, e2_1, e2_3, e2_5, e2_8, e2_9, e2_jt, e2_2, e2_4, e2_6, e2_7, e2_jp9, e2_0] at s1_jt
  try simp only [e2_1, e2_3, e2_5, e2_8, e2_9, e2_jt, e2_2, e2_4, e2_6, e2_7, e2_jp9, e2_0]
  rw [e2_n]
  show G (0 + 1) (0 + 2000) 90 [some (.ref (q2 0)), some (.int (nI p))] [.ref (q2 N), .int (nI p), .int (zbi true), .ref (q2 0)] (N + 1) q2 (va_up f1 N (.inl (cC, k, .inl (va_cpy sc (fun _ => 0) 0 0 k))))
  show G (0 + 1) (0 + 2000) 90 [some (.ref (q2 0)), some (.int (nI p))] [.ref (q2 N), .int (nI p), .int (zbi true), .ref (q2 0)] (N + 1) q2 (va_up f1 N (.inl (cC, k, .inl (va_cpy sc (fun _ => 0) 0 0 k))))
  refine zr_callV X K_B_80 KI_B_80 KS_B_80 (c_B_makeChild (b := true) (by omega) (up_ne (by omega) s1_0) (up_ne (by omega) s1_1) (up_ne (by omega) s1_2) (up_ne (by omega) s1_5) (up_ne (by omega) s1_6) (up_ne (by omega) s1_7) (up_ne (by omega) s1_8) (by omega) hN up_eq htx (zCh.cpy hsc zCh.z) (by omega) hjt23 (by omega) (by omega) (up_ne (by omega) s1_jt) hok hn) d_B_insert_90 (by omega) (up_ne (by omega) s1_0) rfl rfl (by decide) (Nat.le_of_ble_eq_true rfl) (by decide) (st := []) rfl (fun v8 N8 q8 f8 hr8 => ?_)
  obtain ⟨rfl, rfl, ⟨a8, hq8⟩, p1, p2, p3, p4, p5, p6, p7, p8⟩ := hr8
  show G (0 + 1 + 1) (0 + 2000 + 7) 93 [some (.ref (q2 0)), some (.int (nI p))] [.int (nI n)] (N + 1 + 1) q8 f8
  refine zr_ireturn Y d_B_insert_93 rfl (Nat.le_of_ble_eq_true rfl) (Nat.le_of_ble_eq_true rfl) ?_
  refine ⟨rfl, rfl, ⟨a2, a8, by rw [hq8, ← hq2]⟩, (p8 N (by omega) (by omega) (by omega) (by omega) (by omega)).trans up_eq, p1, p2, p3, p4, p5, p6, p7, fun jj k1 k2 k3 k4 k5 => (p8 jj (by omega) k2 k3 k4 k5).trans (up_ne (by omega) (show f1 jj = f jj by rw [ef1]; exact (up_ne (by omega) rfl)))⟩

set_option maxRecDepth 100000 in
set_option maxHeartbeats 4000000 in
theorem c_B_delete_y {l : Launch} {D : va_G} {cI cC cZ cV : ClassId} {N : Nat} {q : Nat → Nat} {f : zF} (hN : 23 ≤ N) {n ins jt : Nat} (h0 : f 0 = zbo q n ins jt) {sz : Nat} (h1 : f 1 = zrow q 2 sz) {tx : Nat → Int32} (h2 : f 2 = .inl (cC, 2000, .inl tx))  (h5 : f 5 = .inr (iM, [.ref (q 6), .ref (q 7)])) {mp : Nat → Int32} (h6 : f 6 = .inl (cI, 6, .inl mp)) {mr : Nat → Int32} (h7 : f 7 = .inl (cZ, 6, .inl mr)) {md : Nat → Option Nat} (h8 : f 8 = .inl (cV, 122, .inr (.inr (.inr (.inr md))))) {num cc at_ jp9 : Nat} {com : Int32} {pr lat : Value} (hjt : jt < N) (hjt23 : 23 ≤ jt) (hjp9 : jp9 < N) (hv : f jt = zver q num pr com at_ jp9 cc lat) {p c : Nat} (hp : p + c ≤ sz) (hs : sz ≤ 2000) (hc0 : 0 < c) (hn : n < 122) (hok : zoK false p c sz) (htx : zCh tx) : zC l y_B_delete b_B_delete 3 (some .int) (rmD 5 2 2007) D (zty cI cC cZ cV) [.ref (q 0), .int (nI p), .int (nI c)] N q f (fun v N' q' f' => v = some (.int (nI n)) ∧ zNewP cC cI cV N q f n ins jt num at_ jp9 cc com pr false p c sz (va_cpy tx (fun _ => 0) p 0 c) tx mp mr md N' q' f') := by
  refine zC.of (by decide) (by simp [Value.category]) (Nat.le_of_ble_eq_true rfl) (fun G X Y => ?_)
  show G 0 0 0 [some (.ref (q 0)), some (.int (nI p)), some (.int (nI c))] [] N q f
  refine zr_aload_n X d_B_delete_0 rfl ?_
  refine zr_get X F_B_14 d_B_delete_1 (by omega) h0 (v := .ref (q 1)) rfl ?_
  refine zr_iload_n X d_B_delete_4 rfl ?_
  refine zr_iload_n X d_B_delete_5 rfl ?_
  refine zr_callV X K_B_62 KI_B_62 KS_B_62 (c_R_hasStretch_y (by omega) h1 (by omega) hp) d_B_delete_6 (by omega) h1 rfl rfl (by decide) (Nat.le_of_ble_eq_true rfl) (by decide) (st := []) rfl (kRd ?_)
  show G 0 0 9 [some (.ref (q 0)), some (.int (nI p)), some (.int (nI c))] [.int (nI 1)] N q f
  refine zr_if_net (tgt := 14) X d_B_delete_9 rfl (by decide) ?_
  refine zr_iload_n X d_B_delete_14 rfl ?_
  refine zr_if_net (tgt := 21) X d_B_delete_15 rfl (nI_ne0 hc0 (by omega)) ?_
  refine zr_aload_n X d_B_delete_21 rfl ?_
  refine zr_get X F_B_44 d_B_delete_22 (by omega) h0 (v := .int (nI n)) rfl ?_
  refine zr_bipush (v := nI 122) X d_B_delete_25 (by decide) ?_
  refine zr_icmp_net (tgt := 33) X d_B_delete_27 rfl (fun h9 => absurd ((nI_eq (by omega) (by decide)).mp h9) (by omega)) ?_
  refine zr_aload_n X d_B_delete_33 rfl ?_
  refine zr_iconst (v := zbi false) X d_B_delete_34 (by decide) ?_
  refine zr_iload_n X d_B_delete_35 rfl ?_
  refine zr_aload_n X d_B_delete_36 rfl ?_
  refine zr_get X F_B_14 d_B_delete_37 (by omega) h0 (v := .ref (q 1)) rfl ?_
  refine zr_iload_n X d_B_delete_40 rfl ?_
  refine zr_iload_n X d_B_delete_41 rfl ?_
  refine zr_callV X K_B_76 KI_B_76 KS_B_76 (c_R_pieceOf (by omega) h1 (by omega) h2 htx (by decide) (by omega) (by omega)) d_B_delete_42 (by omega) h1 rfl rfl (by decide) (Nat.le_of_ble_eq_true rfl) (by decide) (st := [.int (nI p), .int (zbi false), .ref (q 0)]) rfl (fun v9 N9 q9 f9 hr9 => ?_)
  obtain ⟨a1, rfl, rfl, rfl, rfl⟩ := hr9
  show G (0 + 1) (0 + 2000) 45 [some (.ref (q 0)), some (.int (nI p)), some (.int (nI c))] (.ref a1 :: [.int (nI p), .int (zbi false), .ref (q 0)]) (N + 1) (va_up q N a1) (va_up f N (.inl (cC, c, .inl (va_cpy tx (fun _ => 0) p 0 c))))
  generalize hq1 : va_up q N a1 = q1
  have e1_1 : q 1 = q1 1 := by rw [← hq1, up_ne' (by omega)]
  have e1_3 : q 3 = q1 3 := by rw [← hq1, up_ne' (by omega)]
  have e1_5 : q 5 = q1 5 := by rw [← hq1, up_ne' (by omega)]
  have e1_8 : q 8 = q1 8 := by rw [← hq1, up_ne' (by omega)]
  have e1_9 : q 9 = q1 9 := by rw [← hq1, up_ne' (by omega)]
  have e1_jt : q jt = q1 jt := by rw [← hq1, up_ne' (by omega)]
  have e1_2 : q 2 = q1 2 := by rw [← hq1, up_ne' (by omega)]
  have e1_6 : q 6 = q1 6 := by rw [← hq1, up_ne' (by omega)]
  have e1_7 : q 7 = q1 7 := by rw [← hq1, up_ne' (by omega)]
  have e1_jp9 : q jp9 = q1 jp9 := by rw [← hq1, up_ne' (by omega)]
  have e1_0 : q 0 = q1 0 := by rw [← hq1, up_ne' (by omega)]
  have e1_n : a1 = q1 N := by rw [← hq1, up_eq]
  simp only [zbo, zrow, zver, e1_1, e1_3, e1_5, e1_8, e1_9, e1_jt, e1_2, e1_6, e1_7, e1_jp9, e1_0] at h0
  simp only [zbo, zrow, zver, e1_1, e1_3, e1_5, e1_8, e1_9, e1_jt, e1_2, e1_6, e1_7, e1_jp9, e1_0] at h1
  simp only [zbo, zrow, zver, e1_1, e1_3, e1_5, e1_8, e1_9, e1_jt, e1_2, e1_6, e1_7, e1_jp9, e1_0] at h5
  simp only [zbo, zrow, zver, e1_1, e1_3, e1_5, e1_8, e1_9, e1_jt, e1_2, e1_6, e1_7, e1_jp9, e1_0] at hv
  try simp only [e1_1, e1_3, e1_5, e1_8, e1_9, e1_jt, e1_2, e1_6, e1_7, e1_jp9, e1_0]
  rw [e1_n]
  show G (0 + 1) (0 + 2000) 45 [some (.ref (q1 0)), some (.int (nI p)), some (.int (nI c))] [.ref (q1 N), .int (nI p), .int (zbi false), .ref (q1 0)] (N + 1) q1 (va_up f N (.inl (cC, c, .inl (va_cpy tx (fun _ => 0) p 0 c))))
  show G (0 + 1) (0 + 2000) 45 [some (.ref (q1 0)), some (.int (nI p)), some (.int (nI c))] [.ref (q1 N), .int (nI p), .int (zbi false), .ref (q1 0)] (N + 1) q1 (va_up f N (.inl (cC, c, .inl (va_cpy tx (fun _ => 0) p 0 c))))
  refine zr_callV X K_B_80 KI_B_80 KS_B_80 (c_B_makeChild (b := false) (by omega) (up_ne (by omega) h0) (up_ne (by omega) h1) (up_ne (by omega) h2) (up_ne (by omega) h5) (up_ne (by omega) h6) (up_ne (by omega) h7) (up_ne (by omega) h8) (by omega) hN up_eq htx (zCh.cpy htx zCh.z) (by omega) hjt23 (by omega) (by omega) (up_ne (by omega) hv) hok hn) d_B_delete_45 (by omega) (up_ne (by omega) h0) rfl rfl (by decide) (Nat.le_of_ble_eq_true rfl) (by decide) (st := []) rfl (fun v8 N8 q8 f8 hr8 => ?_)
  obtain ⟨rfl, rfl, ⟨a8, hq8⟩, p1, p2, p3, p4, p5, p6, p7, p8⟩ := hr8
  show G (0 + 1 + 1) (0 + 2000 + 7) 48 [some (.ref (q1 0)), some (.int (nI p)), some (.int (nI c))] [.int (nI n)] (N + 1 + 1) q8 f8
  refine zr_ireturn Y d_B_delete_48 rfl (Nat.le_of_ble_eq_true rfl) (Nat.le_of_ble_eq_true rfl) ?_
  refine ⟨rfl, rfl, ⟨a1, a8, by rw [hq8, ← hq1]⟩, (p8 N (by omega) (by omega) (by omega) (by omega) (by omega)).trans up_eq, p1, p2, p3, p4, p5, p6, p7, fun jj k1 k2 k3 k4 k5 => (p8 jj (by omega) k2 k3 k4 k5).trans (up_ne (by omega) rfl)⟩
