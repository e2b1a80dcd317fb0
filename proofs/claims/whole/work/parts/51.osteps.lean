set_option maxRecDepth 100000 in
set_option maxHeartbeats 4000000 in
theorem c_O_stepBack_true {l : Launch} {D : va_G} {cI cC cZ cV : ClassId} {N : Nat} {q : Nat → Nat} {f : zF} (hN : 23 ≤ N) {n po th sz ty : Nat} (h10 : f 10 = zmo q n po th sz ty) {pa : Nat → Int32} (h11 : f 11 = .inl (cI, 122, .inl pa)) {co : Nat → Int32} (h12 : f 12 = .inl (cZ, 122, .inl co)) {pl : Nat → Int32} (h13 : f 13 = .inl (cI, 122, .inl pl)) {mn : Nat → Int32} (h14 : f 14 = .inl (cI, 122, .inl mn)) {ma : Nat → Int32} (h21 : f 21 = .inl (cI, 6, .inl ma)) {mr : Nat → Int32} (h22 : f 22 = .inl (cZ, 6, .inl mr)) {p c u : Nat} (hth : th < 122) (ha : pa th = nI u) (hp : pl th = nI p) (hc : mn th = nI c) (hb : co th = zbi true) : zC l y_O_stepBack b_O_stepBack 1 none (rmD 1 0 0) D (zty cI cC cZ cV) [.ref (q 10)] N q f (pW N q (va_up (va_up f 21 (.inl (cI, 6, .inl (zoM false p c ma mr)))) 10 (zmo q n po u sz ty))) := by
  refine zC.of (by decide) (by simp [Value.category]) (Nat.le_of_ble_eq_true rfl) (fun G X Y => ?_)
  show G 0 0 0 [some (.ref (q 10))] [] N q f
  refine zr_aload_n X d_O_stepBack_0 rfl ?_
  refine zr_aload_n X d_O_stepBack_1 rfl ?_
  refine zr_get X F_O_21 d_O_stepBack_2 (by omega) h10 (v := .ref (q 13)) rfl ?_
  refine zr_aload_n X d_O_stepBack_5 rfl ?_
  refine zr_get X F_O_62 d_O_stepBack_6 (by omega) h10 (v := .int (nI th)) rfl ?_
  refine zr_iaload (v := nI p) X 0 d_O_stepBack_9 (by omega) h13 rfl (by omega) (by decide) hp ?_
  refine zr_aload_n X d_O_stepBack_10 rfl ?_
  refine zr_get X F_O_24 d_O_stepBack_11 (by omega) h10 (v := .ref (q 14)) rfl ?_
  refine zr_aload_n X d_O_stepBack_14 rfl ?_
  refine zr_get X F_O_62 d_O_stepBack_15 (by omega) h10 (v := .int (nI th)) rfl ?_
  refine zr_iaload (v := nI c) X 0 d_O_stepBack_18 (by omega) h14 rfl (by omega) (by decide) hc ?_
  refine zr_aload_n X d_O_stepBack_19 rfl ?_
  refine zr_get X F_O_17 d_O_stepBack_20 (by omega) h10 (v := .ref (q 12)) rfl ?_
  refine zr_aload_n X d_O_stepBack_23 rfl ?_
  refine zr_get X F_O_62 d_O_stepBack_24 (by omega) h10 (v := .int (nI th)) rfl ?_
  refine zr_baload (v := zbi true) X 2 d_O_stepBack_27 (by omega) h12 rfl (by omega) (by decide) hb ?_
  refine zr_if_net (tgt := 35) X d_O_stepBack_28 rfl (by decide) ?_
  refine zr_iconst (v := zbi false) X d_O_stepBack_35 (by decide) ?_
  refine zr_callV X K_O_72 KI_O_72 KS_O_72 (c_O_moveMarks hN h10 h21 h22) d_O_stepBack_36 (by omega) h10 rfl rfl (by decide) (Nat.le_of_ble_eq_true rfl) (by decide) (st := []) rfl (kW ?_)
  show G 0 0 39 [some (.ref (q 10))] [] N q (va_up f 21 (.inl (cI, 6, .inl (zoM false p c ma mr))))
  refine zr_aload_n X d_O_stepBack_39 rfl ?_
  refine zr_aload_n X d_O_stepBack_40 rfl ?_
  refine zr_get X F_O_13 d_O_stepBack_41 (by omega) (up_ne (by decide) h10) (v := .ref (q 11)) rfl ?_
  refine zr_aload_n X d_O_stepBack_44 rfl ?_
  refine zr_get X F_O_62 d_O_stepBack_45 (by omega) (up_ne (by decide) h10) (v := .int (nI th)) rfl ?_
  refine zr_iaload (v := nI u) X 0 d_O_stepBack_48 (by omega) (up_ne (by decide) h11) rfl (by omega) (by decide) ha ?_
  refine zr_put (fs' := [.int (nI n), .ref (q 11), .ref (q 12), .ref (q 13), .ref (q 14), .ref (q 15), .int (nI po), .ref (q 16), .int (nI u), .int (nI sz), .ref (q 17), .ref (q 18), .int (nI ty), .ref (q 19), .ref (q 20), .ref (q 21), .ref (q 22)]) X F_O_62 d_O_stepBack_49 (by omega) (up_ne (by decide) h10) rfl rfl (Nat.le_of_ble_eq_true rfl) rfl ?_
  refine zr_return Y d_O_stepBack_52 (Nat.le_of_ble_eq_true rfl) (Nat.le_of_ble_eq_true rfl) ?_
  exact ⟨rfl, rfl, rfl, rfl⟩

set_option maxRecDepth 100000 in
set_option maxHeartbeats 4000000 in
theorem c_O_stepBack_false {l : Launch} {D : va_G} {cI cC cZ cV : ClassId} {N : Nat} {q : Nat → Nat} {f : zF} (hN : 23 ≤ N) {n po th sz ty : Nat} (h10 : f 10 = zmo q n po th sz ty) {pa : Nat → Int32} (h11 : f 11 = .inl (cI, 122, .inl pa)) {co : Nat → Int32} (h12 : f 12 = .inl (cZ, 122, .inl co)) {pl : Nat → Int32} (h13 : f 13 = .inl (cI, 122, .inl pl)) {mn : Nat → Int32} (h14 : f 14 = .inl (cI, 122, .inl mn)) {ma : Nat → Int32} (h21 : f 21 = .inl (cI, 6, .inl ma)) {mr : Nat → Int32} (h22 : f 22 = .inl (cZ, 6, .inl mr)) {p c u : Nat} (hth : th < 122) (ha : pa th = nI u) (hp : pl th = nI p) (hc : mn th = nI c) (hb : co th = zbi false) : zC l y_O_stepBack b_O_stepBack 1 none (rmD 1 0 0) D (zty cI cC cZ cV) [.ref (q 10)] N q f (pW N q (va_up (va_up f 21 (.inl (cI, 6, .inl (zoM true p c ma mr)))) 10 (zmo q n po u sz ty))) := by
  refine zC.of (by decide) (by simp [Value.category]) (Nat.le_of_ble_eq_true rfl) (fun G X Y => ?_)
  show G 0 0 0 [some (.ref (q 10))] [] N q f
  refine zr_aload_n X d_O_stepBack_0 rfl ?_
  refine zr_aload_n X d_O_stepBack_1 rfl ?_
  refine zr_get X F_O_21 d_O_stepBack_2 (by omega) h10 (v := .ref (q 13)) rfl ?_
  refine zr_aload_n X d_O_stepBack_5 rfl ?_
  refine zr_get X F_O_62 d_O_stepBack_6 (by omega) h10 (v := .int (nI th)) rfl ?_
  refine zr_iaload (v := nI p) X 0 d_O_stepBack_9 (by omega) h13 rfl (by omega) (by decide) hp ?_
  refine zr_aload_n X d_O_stepBack_10 rfl ?_
  refine zr_get X F_O_24 d_O_stepBack_11 (by omega) h10 (v := .ref (q 14)) rfl ?_
  refine zr_aload_n X d_O_stepBack_14 rfl ?_
  refine zr_get X F_O_62 d_O_stepBack_15 (by omega) h10 (v := .int (nI th)) rfl ?_
  refine zr_iaload (v := nI c) X 0 d_O_stepBack_18 (by omega) h14 rfl (by omega) (by decide) hc ?_
  refine zr_aload_n X d_O_stepBack_19 rfl ?_
  refine zr_get X F_O_17 d_O_stepBack_20 (by omega) h10 (v := .ref (q 12)) rfl ?_
  refine zr_aload_n X d_O_stepBack_23 rfl ?_
  refine zr_get X F_O_62 d_O_stepBack_24 (by omega) h10 (v := .int (nI th)) rfl ?_
  refine zr_baload (v := zbi false) X 2 d_O_stepBack_27 (by omega) h12 rfl (by omega) (by decide) hb ?_
  refine zr_if_nef (tgt := 35) X d_O_stepBack_28 rfl (by decide) ?_
  refine zr_iconst (v := zbi true) X d_O_stepBack_31 (by decide) ?_
  refine zr_goto (tgt := 36) X d_O_stepBack_32 rfl ?_
  refine zr_callV X K_O_72 KI_O_72 KS_O_72 (c_O_moveMarks hN h10 h21 h22) d_O_stepBack_36 (by omega) h10 rfl rfl (by decide) (Nat.le_of_ble_eq_true rfl) (by decide) (st := []) rfl (kW ?_)
  show G 0 0 39 [some (.ref (q 10))] [] N q (va_up f 21 (.inl (cI, 6, .inl (zoM true p c ma mr))))
  refine zr_aload_n X d_O_stepBack_39 rfl ?_
  refine zr_aload_n X d_O_stepBack_40 rfl ?_
  refine zr_get X F_O_13 d_O_stepBack_41 (by omega) (up_ne (by decide) h10) (v := .ref (q 11)) rfl ?_
  refine zr_aload_n X d_O_stepBack_44 rfl ?_
  refine zr_get X F_O_62 d_O_stepBack_45 (by omega) (up_ne (by decide) h10) (v := .int (nI th)) rfl ?_
  refine zr_iaload (v := nI u) X 0 d_O_stepBack_48 (by omega) (up_ne (by decide) h11) rfl (by omega) (by decide) ha ?_
  refine zr_put (fs' := [.int (nI n), .ref (q 11), .ref (q 12), .ref (q 13), .ref (q 14), .ref (q 15), .int (nI po), .ref (q 16), .int (nI u), .int (nI sz), .ref (q 17), .ref (q 18), .int (nI ty), .ref (q 19), .ref (q 20), .ref (q 21), .ref (q 22)]) X F_O_62 d_O_stepBack_49 (by omega) (up_ne (by decide) h10) rfl rfl (Nat.le_of_ble_eq_true rfl) rfl ?_
  refine zr_return Y d_O_stepBack_52 (Nat.le_of_ble_eq_true rfl) (Nat.le_of_ble_eq_true rfl) ?_
  exact ⟨rfl, rfl, rfl, rfl⟩

theorem c_O_stepBack {l : Launch} {D : va_G} {cI cC cZ cV : ClassId} {N : Nat} {q : Nat → Nat} {f : zF} (hN : 23 ≤ N) {n po th sz ty : Nat} (h10 : f 10 = zmo q n po th sz ty) {pa : Nat → Int32} (h11 : f 11 = .inl (cI, 122, .inl pa)) {co : Nat → Int32} (h12 : f 12 = .inl (cZ, 122, .inl co)) {pl : Nat → Int32} (h13 : f 13 = .inl (cI, 122, .inl pl)) {mn : Nat → Int32} (h14 : f 14 = .inl (cI, 122, .inl mn)) {ma : Nat → Int32} (h21 : f 21 = .inl (cI, 6, .inl ma)) {mr : Nat → Int32} (h22 : f 22 = .inl (cZ, 6, .inl mr)) {p c u : Nat} (hth : th < 122) (ha : pa th = nI u) (hp : pl th = nI p) (hc : mn th = nI c) {b : Bool} (hb : co th = zbi b) : zC l y_O_stepBack b_O_stepBack 1 none (rmD 1 0 0) D (zty cI cC cZ cV) [.ref (q 10)] N q f (pW N q (va_up (va_up f 21 (.inl (cI, 6, .inl (zoM (!b) p c ma mr)))) 10 (zmo q n po u sz ty))) := by
  cases b with
  | true => exact c_O_stepBack_true hN h10 h11 h12 h13 h14 h21 h22 hth ha hp hc hb
  | false => exact c_O_stepBack_false hN h10 h11 h12 h13 h14 h21 h22 hth ha hp hc hb

set_option maxRecDepth 100000 in
set_option maxHeartbeats 4000000 in
theorem c_O_stepOn {l : Launch} {D : va_G} {cI cC cZ cV : ClassId} {N : Nat} {q : Nat → Nat} {f : zF} (hN : 23 ≤ N) {n po th sz ty : Nat} (h10 : f 10 = zmo q n po th sz ty) {co : Nat → Int32} (h12 : f 12 = .inl (cZ, 122, .inl co)) {pl : Nat → Int32} (h13 : f 13 = .inl (cI, 122, .inl pl)) {mn : Nat → Int32} (h14 : f 14 = .inl (cI, 122, .inl mn)) {ma : Nat → Int32} (h21 : f 21 = .inl (cI, 6, .inl ma)) {mr : Nat → Int32} (h22 : f 22 = .inl (cZ, 6, .inl mr)) {p c v : Nat} {b : Bool} (hv : v < 122) (hp : pl v = nI p) (hc : mn v = nI c) (hb : co v = zbi b) : zC l y_O_stepOn b_O_stepOn 2 none (rmD 1 0 0) D (zty cI cC cZ cV) [.ref (q 10), .int (nI v)] N q f (pW N q (va_up (va_up f 21 (.inl (cI, 6, .inl (zoM b p c ma mr)))) 10 (zmo q n po v sz ty))) := by
  refine zC.of (by decide) (by simp [Value.category]) (Nat.le_of_ble_eq_true rfl) (fun G X Y => ?_)
  show G 0 0 0 [some (.ref (q 10)), some (.int (nI v))] [] N q f
  refine zr_aload_n X d_O_stepOn_0 rfl ?_
  refine zr_aload_n X d_O_stepOn_1 rfl ?_
  refine zr_get X F_O_21 d_O_stepOn_2 (by omega) h10 (v := .ref (q 13)) rfl ?_
  refine zr_iload_n X d_O_stepOn_5 rfl ?_
  refine zr_iaload (v := nI p) X 0 d_O_stepOn_6 (by omega) h13 rfl (by omega) (by decide) hp ?_
  refine zr_aload_n X d_O_stepOn_7 rfl ?_
  refine zr_get X F_O_24 d_O_stepOn_8 (by omega) h10 (v := .ref (q 14)) rfl ?_
  refine zr_iload_n X d_O_stepOn_11 rfl ?_
  refine zr_iaload (v := nI c) X 0 d_O_stepOn_12 (by omega) h14 rfl (by omega) (by decide) hc ?_
  refine zr_aload_n X d_O_stepOn_13 rfl ?_
  refine zr_get X F_O_17 d_O_stepOn_14 (by omega) h10 (v := .ref (q 12)) rfl ?_
  refine zr_iload_n X d_O_stepOn_17 rfl ?_
  refine zr_baload (v := zbi b) X 2 d_O_stepOn_18 (by omega) h12 rfl (by omega) (by decide) hb ?_
  refine zr_callV X K_O_72 KI_O_72 KS_O_72 (c_O_moveMarks hN h10 h21 h22) d_O_stepOn_19 (by omega) h10 rfl rfl (by decide) (Nat.le_of_ble_eq_true rfl) (by decide) (st := []) rfl (kW ?_)
  show G 0 0 22 [some (.ref (q 10)), some (.int (nI v))] [] N q (va_up f 21 (.inl (cI, 6, .inl (zoM b p c ma mr))))
  refine zr_aload_n X d_O_stepOn_22 rfl ?_
  refine zr_iload_n X d_O_stepOn_23 rfl ?_
  refine zr_put (fs' := [.int (nI n), .ref (q 11), .ref (q 12), .ref (q 13), .ref (q 14), .ref (q 15), .int (nI po), .ref (q 16), .int (nI v), .int (nI sz), .ref (q 17), .ref (q 18), .int (nI ty), .ref (q 19), .ref (q 20), .ref (q 21), .ref (q 22)]) X F_O_62 d_O_stepOn_24 (by omega) (up_ne (by decide) h10) rfl rfl (Nat.le_of_ble_eq_true rfl) rfl ?_
  refine zr_return Y d_O_stepOn_27 (Nat.le_of_ble_eq_true rfl) (Nat.le_of_ble_eq_true rfl) ?_
  exact ⟨rfl, rfl, rfl, rfl⟩

/-- the store behind a call that went to version th and made its text anew -/
def zMade (cC cI : ClassId) (q : Nat → Nat) (n po th ty : Nat) (tz : Nat → Nat) (tt : Nat → Nat → Int32) (ma : Nat → Int32) (f f' : zF) : Prop := (∃ g w, f' 10 = zmo q n po th (tz th) ty ∧ f' 17 = .inl (cC, 2000, .inl g) ∧ f' 18 = .inl (cI, 122, .inl w) ∧ zCh g ∧ ∀ j, j < tz th → g j = tt th j) ∧ f' 21 = .inl (cI, 6, .inl ma) ∧ ∀ jj, jj ≠ 10 → jj ≠ 17 → jj ≠ 18 → jj ≠ 21 → f' jj = f jj

set_option maxRecDepth 100000 in
set_option maxHeartbeats 4000000 in
theorem c_O_undo_0 {l : Launch} {D : va_G} {cI cC cZ cV : ClassId} {N : Nat} {q : Nat → Nat} {f : zF} (hN : 23 ≤ N) {n po th sz ty : Nat} (h10 : f 10 = zmo q n po th sz ty) (h0 : th = 0) : zC l y_O_undo b_O_undo 1 (some .int) (rmD 2 0 0) D (zty cI cC cZ cV) [.ref (q 10)] N q f (pRd N q f (-1)) := by
  refine zC.of (by decide) (by simp [Value.category]) (Nat.le_of_ble_eq_true rfl) (fun G X Y => ?_)
  show G 0 0 0 [some (.ref (q 10))] [] N q f
  refine zr_aload_n X d_O_undo_0 rfl ?_
  refine zr_get X F_O_62 d_O_undo_1 (by omega) h10 (v := .int (nI th)) rfl ?_
  refine zr_if_nef (tgt := 9) X d_O_undo_4 rfl (by rw [h0]; rfl) ?_
  refine zr_iconst (v := (-1)) X d_O_undo_7 (by decide) ?_
  refine zr_ireturn Y d_O_undo_8 rfl (Nat.le_of_ble_eq_true rfl) (Nat.le_of_ble_eq_true rfl) ?_
  exact ⟨rfl, rfl, rfl, rfl⟩

set_option maxRecDepth 100000 in
set_option maxHeartbeats 4000000 in
theorem c_O_undo_y {l : Launch} {D : va_G} {cI cC cZ cV : ClassId} {N : Nat} {q : Nat → Nat} {f : zF} (hN : 23 ≤ N) {n po th sz ty : Nat} (h10 : f 10 = zmo q n po th sz ty) {pa : Nat → Int32} (h11 : f 11 = .inl (cI, 122, .inl pa)) {co : Nat → Int32} (h12 : f 12 = .inl (cZ, 122, .inl co)) {pl : Nat → Int32} (h13 : f 13 = .inl (cI, 122, .inl pl)) {mn : Nat → Int32} (h14 : f 14 = .inl (cI, 122, .inl mn)) {fi : Nat → Int32} (h15 : f 15 = .inl (cI, 122, .inl fi)) {pool : Nat → Int32} (h16 : f 16 = .inl (cC, 2000, .inl pool)) {tx : Nat → Int32} (h17 : f 17 = .inl (cC, 2000, .inl tx)) {way : Nat → Int32} (h18 : f 18 = .inl (cI, 122, .inl way)) {ma : Nat → Int32} (h21 : f 21 = .inl (cI, 6, .inl ma)) {mr : Nat → Int32} (h22 : f 22 = .inl (cZ, 6, .inl mr)) (htx : zCh tx) (hpool : zCh pool) {par : Nat → Nat} {com : Nat → Bool} {tp tc : Nat → Nat} {tq : Nat → Nat → Int32} {tz : Nat → Nat} {tt : Nat → Nat → Int32} (T : zTree n par com tp tc tq tz tt) (M : zMT n par com tp tc tq pa co pl mn fi pool) (hth : th < n) (hn : n ≤ 122) (hth0 : 0 < th) : zC l y_O_undo b_O_undo 1 (some .int) (rmD 2 0 0) D (zty cI cC cZ cV) [.ref (q 10)] N q f (fun v N' q' f' => v = some (.int (nI (par th))) ∧ N' = N ∧ q' = q ∧ zMade cC cI q n po (par th) ty tz tt (zoM (!(com th)) (tp th) (tc th) ma mr) f f') := by
  refine zC.of (by decide) (by simp [Value.category]) (Nat.le_of_ble_eq_true rfl) (fun G X Y => ?_)
  show G 0 0 0 [some (.ref (q 10))] [] N q f
  obtain ⟨M1, M2, M3, M4, -⟩ := M th hth0 hth
  have hlt := T.lt hth0 hth
  refine zr_aload_n X d_O_undo_0 rfl ?_
  refine zr_get X F_O_62 d_O_undo_1 (by omega) h10 (v := .int (nI th)) rfl ?_
  refine zr_if_net (tgt := 9) X d_O_undo_4 rfl (nI_ne0 hth0 (by omega)) ?_
  refine zr_aload_n X d_O_undo_9 rfl ?_
  refine zr_callV X K_O_90 KI_O_90 KS_O_90 (c_O_stepBack hN h10 h11 h12 h13 h14 h21 h22 (by omega) M1 M3 M4 M2) d_O_undo_10 (by omega) h10 rfl rfl (by decide) (Nat.le_of_ble_eq_true rfl) (by decide) (st := []) rfl (kW ?_)
  show G 0 0 13 [some (.ref (q 10))] [] N q (va_up (va_up f 21 (.inl (cI, 6, .inl (zoM (!(com th)) (tp th) (tc th) ma mr)))) 10 (.inr (iO, [.int (nI n), .ref (q 11), .ref (q 12), .ref (q 13), .ref (q 14), .ref (q 15), .int (nI po), .ref (q 16), .int (nI (par th)), .int (nI sz), .ref (q 17), .ref (q 18), .int (nI ty), .ref (q 19), .ref (q 20), .ref (q 21), .ref (q 22)])))
  refine zr_aload_n X d_O_undo_13 rfl ?_
  refine zr_callV X K_O_76 KI_O_76 KS_O_76 (c_O_make hN up_eq (up_ne (by decide) (up_ne (by decide) h11)) (up_ne (by decide) (up_ne (by decide) h12)) (up_ne (by decide) (up_ne (by decide) h13)) (up_ne (by decide) (up_ne (by decide) h14)) (up_ne (by decide) (up_ne (by decide) h15)) (up_ne (by decide) (up_ne (by decide) h16)) (up_ne (by decide) (up_ne (by decide) h17)) (up_ne (by decide) (up_ne (by decide) h18)) htx hpool T M (by omega) hn) d_O_undo_14 (by omega) up_eq rfl rfl (by decide) (Nat.le_of_ble_eq_true rfl) (by decide) (st := []) rfl (kV fun f1 hm1 => ?_)
  obtain ⟨g1, w1, m1, m2, m3, m4, m5, m6⟩ := hm1
  show G 0 0 17 [some (.ref (q 10))] [] N q f1
  refine zr_aload_n X d_O_undo_17 rfl ?_
  refine zr_get X F_O_62 d_O_undo_18 (by omega) m1 (v := .int (nI (par th))) rfl ?_
  refine zr_ireturn Y d_O_undo_21 rfl (Nat.le_of_ble_eq_true rfl) (Nat.le_of_ble_eq_true rfl) ?_
  exact ⟨rfl, rfl, rfl, ⟨g1, w1, m1, m2, m3, m4, m5⟩, (m6 21 (by decide) (by decide) (by decide)).trans (up_ne (by decide) up_eq), fun jj k1 k2 k3 k4 => (m6 jj k1 k2 k3).trans (up_ne k1 (up_ne k4 rfl))⟩

set_option maxRecDepth 100000 in
set_option maxHeartbeats 4000000 in
theorem c_O_redo_0 {l : Launch} {D : va_G} {cI cC cZ cV : ClassId} {N : Nat} {q : Nat → Nat} {f : zF} (hN : 23 ≤ N) {n po th sz ty : Nat} (h10 : f 10 = zmo q n po th sz ty) {pa : Nat → Int32} (h11 : f 11 = .inl (cI, 122, .inl pa)) (hn0 : 0 < n) (hn : n ≤ 122) (hl : zlt pa th n = none) : zC l y_O_redo b_O_redo 3 (some .int) (rmD 2 0 0) D (zty cI cC cZ cV) [.ref (q 10)] N q f (pRd N q f (-1)) := by
  refine zC.of (by decide) (by simp [Value.category]) (Nat.le_of_ble_eq_true rfl) (fun G X Y => ?_)
  show G 0 0 0 [some (.ref (q 10)), none, none] [] N q f
  have loop : ∀ (d i : Nat), i + d = n → 0 < i → G 0 0 4 [some (.ref (q 10)), some (.int (zfi (zlt pa th i))), some (.int (nI i))] [] N q f := by
    intro d
    induction d with
    | zero =>
      intro i hi hi0
      show G 0 0 4 [some (.ref (q 10)), some (.int (zfi (zlt pa th i))), some (.int (nI i))] [] N q f
      rw [show i = n by omega, hl]
      show G 0 0 4 [some (.ref (q 10)), some (.int (-1)), some (.int (nI n))] [] N q f
      refine zr_iload_n X d_O_redo_4 rfl ?_
      refine zr_aload_n X d_O_redo_5 rfl ?_
      refine zr_get X F_O_7 d_O_redo_6 (by omega) h10 (v := .int (nI n)) rfl ?_
      refine zr_icmp_get (tgt := 37) X d_O_redo_9 rfl (nI_le (by omega) (by omega)) ?_
      refine zr_iload_n X d_O_redo_37 rfl ?_
      refine zr_if_let (tgt := 50) X d_O_redo_38 rfl (by decide) ?_
      refine zr_iload_n X d_O_redo_50 rfl ?_
      refine zr_ireturn Y d_O_redo_51 rfl (Nat.le_of_ble_eq_true rfl) (Nat.le_of_ble_eq_true rfl) ?_
      exact ⟨rfl, rfl, rfl, rfl⟩
    | succ d ih =>
      intro i hi hi0
      show G 0 0 4 [some (.ref (q 10)), some (.int (zfi (zlt pa th i))), some (.int (nI i))] [] N q f
      refine zr_iload_n X d_O_redo_4 rfl ?_
      refine zr_aload_n X d_O_redo_5 rfl ?_
      refine zr_get X F_O_7 d_O_redo_6 (by omega) h10 (v := .int (nI n)) rfl ?_
      refine zr_icmp_gef (tgt := 37) X d_O_redo_9 rfl (nI_ge (by omega) (by omega)) ?_
      refine zr_aload_n X d_O_redo_12 rfl ?_
      refine zr_get X F_O_13 d_O_redo_13 (by omega) h10 (v := .ref (q 11)) rfl ?_
      refine zr_iload_n X d_O_redo_16 rfl ?_
      refine zr_iaload (v := pa i) X 0 d_O_redo_17 (by omega) h11 rfl (by omega) (by decide) rfl ?_
      refine zr_aload_n X d_O_redo_18 rfl ?_
      refine zr_get X F_O_62 d_O_redo_19 (by omega) h10 (v := .int (nI th)) rfl ?_
      refine zr_icmp_ne (tgt := 29) X d_O_redo_22 rfl (fun h22 => ?_) (fun h22 => ?_)
      · skip
        refine zr_iload_n X d_O_redo_29 rfl ?_
        refine zr_istore_n (lv' := [some (.ref (q 10)), some (.int (zfi (zlt pa th i))), some (.int (nI i))]) X d_O_redo_30 (by decide) rfl ?_
        refine zr_iinc (v := nI (i + 1)) (lv' := [some (.ref (q 10)), some (.int (zfi (zlt pa th i))), some (.int (nI (i + 1)))]) X d_O_redo_31 rfl (nI_1 _) (by decide) rfl ?_
        refine zr_goto (tgt := 4) X d_O_redo_34 rfl ?_
        have h9 := ih (i + 1) (by omega) (by omega)
        rw [show zlt pa th (i + 1) = zlt pa th i from if_neg (fun h8 => h22 h8.2)] at h9
        exact h9
      · skip
        refine zr_iload_n X d_O_redo_25 rfl ?_
        refine zr_goto (tgt := 30) X d_O_redo_26 rfl ?_
        refine zr_istore_n (lv' := [some (.ref (q 10)), some (.int (nI i)), some (.int (nI i))]) X d_O_redo_30 (by decide) rfl ?_
        refine zr_iinc (v := nI (i + 1)) (lv' := [some (.ref (q 10)), some (.int (nI i)), some (.int (nI (i + 1)))]) X d_O_redo_31 rfl (nI_1 _) (by decide) rfl ?_
        refine zr_goto (tgt := 4) X d_O_redo_34 rfl ?_
        have h9 := ih (i + 1) (by omega) (by omega)
        rw [show zlt pa th (i + 1) = some i from if_pos ⟨hi0, h22⟩] at h9
        exact h9
  refine zr_iconst (v := (-1)) X d_O_redo_0 (by decide) ?_
  refine zr_istore_n (lv' := [some (.ref (q 10)), some (.int ((-1))), none]) X d_O_redo_1 (by decide) rfl ?_
  refine zr_iconst (v := nI 1) X d_O_redo_2 (by decide) ?_
  refine zr_istore_n (lv' := [some (.ref (q 10)), some (.int ((-1))), some (.int (nI 1))]) X d_O_redo_3 (by decide) rfl ?_
  have h9 := loop (n - 1) 1 (by omega) (by omega)
  rw [zlt_1] at h9
  exact h9

set_option maxRecDepth 100000 in
set_option maxHeartbeats 4000000 in
theorem c_O_redo_y {l : Launch} {D : va_G} {cI cC cZ cV : ClassId} {N : Nat} {q : Nat → Nat} {f : zF} (hN : 23 ≤ N) {n po th sz ty : Nat} (h10 : f 10 = zmo q n po th sz ty) {pa : Nat → Int32} (h11 : f 11 = .inl (cI, 122, .inl pa)) {co : Nat → Int32} (h12 : f 12 = .inl (cZ, 122, .inl co)) {pl : Nat → Int32} (h13 : f 13 = .inl (cI, 122, .inl pl)) {mn : Nat → Int32} (h14 : f 14 = .inl (cI, 122, .inl mn)) {fi : Nat → Int32} (h15 : f 15 = .inl (cI, 122, .inl fi)) {pool : Nat → Int32} (h16 : f 16 = .inl (cC, 2000, .inl pool)) {tx : Nat → Int32} (h17 : f 17 = .inl (cC, 2000, .inl tx)) {way : Nat → Int32} (h18 : f 18 = .inl (cI, 122, .inl way)) {ma : Nat → Int32} (h21 : f 21 = .inl (cI, 6, .inl ma)) {mr : Nat → Int32} (h22 : f 22 = .inl (cZ, 6, .inl mr)) (htx : zCh tx) (hpool : zCh pool) {par : Nat → Nat} {com : Nat → Bool} {tp tc : Nat → Nat} {tq : Nat → Nat → Int32} {tz : Nat → Nat} {tt : Nat → Nat → Int32} (T : zTree n par com tp tc tq tz tt) (M : zMT n par com tp tc tq pa co pl mn fi pool) (hth : th < n) (hn : n ≤ 122) {v : Nat} (hl : zlt pa th n = some v) (hv0 : 0 < v) (hv : v < n) : zC l y_O_redo b_O_redo 3 (some .int) (rmD 2 0 0) D (zty cI cC cZ cV) [.ref (q 10)] N q f (fun x N' q' f' => x = some (.int (nI v)) ∧ N' = N ∧ q' = q ∧ zMade cC cI q n po v ty tz tt (zoM (com v) (tp v) (tc v) ma mr) f f') := by
  refine zC.of (by decide) (by simp [Value.category]) (Nat.le_of_ble_eq_true rfl) (fun G X Y => ?_)
  show G 0 0 0 [some (.ref (q 10)), none, none] [] N q f
  have loop : ∀ (d i : Nat), i + d = n → 0 < i → G 0 0 4 [some (.ref (q 10)), some (.int (zfi (zlt pa th i))), some (.int (nI i))] [] N q f := by
    intro d
    induction d with
    | zero =>
      intro i hi hi0
      show G 0 0 4 [some (.ref (q 10)), some (.int (zfi (zlt pa th i))), some (.int (nI i))] [] N q f
      rw [show i = n by omega, hl]
      show G 0 0 4 [some (.ref (q 10)), some (.int (nI v)), some (.int (nI n))] [] N q f
      obtain ⟨M1, M2, M3, M4, -⟩ := M v hv0 hv
      refine zr_iload_n X d_O_redo_4 rfl ?_
      refine zr_aload_n X d_O_redo_5 rfl ?_
      refine zr_get X F_O_7 d_O_redo_6 (by omega) h10 (v := .int (nI n)) rfl ?_
      refine zr_icmp_get (tgt := 37) X d_O_redo_9 rfl (nI_le (by omega) (by omega)) ?_
      refine zr_iload_n X d_O_redo_37 rfl ?_
      refine zr_if_lef (tgt := 50) X d_O_redo_38 rfl (nI_nle hv0 (by omega)) ?_
      refine zr_aload_n X d_O_redo_41 rfl ?_
      refine zr_iload_n X d_O_redo_42 rfl ?_
      refine zr_callV X K_O_93 KI_O_93 KS_O_93 (c_O_stepOn hN h10 h12 h13 h14 h21 h22 (by omega) M3 M4 M2) d_O_redo_43 (by omega) h10 rfl rfl (by decide) (Nat.le_of_ble_eq_true rfl) (by decide) (st := []) rfl (kW ?_)
      show G 0 0 46 [some (.ref (q 10)), some (.int (nI v)), some (.int (nI n))] [] N q (va_up (va_up f 21 (.inl (cI, 6, .inl (zoM (com v) (tp v) (tc v) ma mr)))) 10 (.inr (iO, [.int (nI n), .ref (q 11), .ref (q 12), .ref (q 13), .ref (q 14), .ref (q 15), .int (nI po), .ref (q 16), .int (nI v), .int (nI sz), .ref (q 17), .ref (q 18), .int (nI ty), .ref (q 19), .ref (q 20), .ref (q 21), .ref (q 22)])))
      refine zr_aload_n X d_O_redo_46 rfl ?_
      refine zr_callV X K_O_76 KI_O_76 KS_O_76 (c_O_make hN up_eq (up_ne (by decide) (up_ne (by decide) h11)) (up_ne (by decide) (up_ne (by decide) h12)) (up_ne (by decide) (up_ne (by decide) h13)) (up_ne (by decide) (up_ne (by decide) h14)) (up_ne (by decide) (up_ne (by decide) h15)) (up_ne (by decide) (up_ne (by decide) h16)) (up_ne (by decide) (up_ne (by decide) h17)) (up_ne (by decide) (up_ne (by decide) h18)) htx hpool T M hv hn) d_O_redo_47 (by omega) up_eq rfl rfl (by decide) (Nat.le_of_ble_eq_true rfl) (by decide) (st := []) rfl (kV fun f1 hm1 => ?_)
      obtain ⟨g1, w1, m1, m2, m3, m4, m5, m6⟩ := hm1
      show G 0 0 50 [some (.ref (q 10)), some (.int (nI v)), some (.int (nI n))] [] N q f1
      refine zr_iload_n X d_O_redo_50 rfl ?_
      refine zr_ireturn Y d_O_redo_51 rfl (Nat.le_of_ble_eq_true rfl) (Nat.le_of_ble_eq_true rfl) ?_
      exact ⟨rfl, rfl, rfl, ⟨g1, w1, m1, m2, m3, m4, m5⟩, (m6 21 (by decide) (by decide) (by decide)).trans (up_ne (by decide) up_eq), fun jj k1 k2 k3 k4 => (m6 jj k1 k2 k3).trans (up_ne k1 (up_ne k4 rfl))⟩
    | succ d ih =>
      intro i hi hi0
      show G 0 0 4 [some (.ref (q 10)), some (.int (zfi (zlt pa th i))), some (.int (nI i))] [] N q f
      refine zr_iload_n X d_O_redo_4 rfl ?_
      refine zr_aload_n X d_O_redo_5 rfl ?_
      refine zr_get X F_O_7 d_O_redo_6 (by omega) h10 (v := .int (nI n)) rfl ?_
      refine zr_icmp_gef (tgt := 37) X d_O_redo_9 rfl (nI_ge (by omega) (by omega)) ?_
      refine zr_aload_n X d_O_redo_12 rfl ?_
      refine zr_get X F_O_13 d_O_redo_13 (by omega) h10 (v := .ref (q 11)) rfl ?_
      refine zr_iload_n X d_O_redo_16 rfl ?_
      refine zr_iaload (v := pa i) X 0 d_O_redo_17 (by omega) h11 rfl (by omega) (by decide) rfl ?_
      refine zr_aload_n X d_O_redo_18 rfl ?_
      refine zr_get X F_O_62 d_O_redo_19 (by omega) h10 (v := .int (nI th)) rfl ?_
      refine zr_icmp_ne (tgt := 29) X d_O_redo_22 rfl (fun k22 => ?_) (fun k22 => ?_)
      · skip
        refine zr_iload_n X d_O_redo_29 rfl ?_
        refine zr_istore_n (lv' := [some (.ref (q 10)), some (.int (zfi (zlt pa th i))), some (.int (nI i))]) X d_O_redo_30 (by decide) rfl ?_
        refine zr_iinc (v := nI (i + 1)) (lv' := [some (.ref (q 10)), some (.int (zfi (zlt pa th i))), some (.int (nI (i + 1)))]) X d_O_redo_31 rfl (nI_1 _) (by decide) rfl ?_
        refine zr_goto (tgt := 4) X d_O_redo_34 rfl ?_
        have h9 := ih (i + 1) (by omega) (by omega)
        rw [show zlt pa th (i + 1) = zlt pa th i from if_neg (fun h8 => k22 h8.2)] at h9
        exact h9
      · skip
        refine zr_iload_n X d_O_redo_25 rfl ?_
        refine zr_goto (tgt := 30) X d_O_redo_26 rfl ?_
        refine zr_istore_n (lv' := [some (.ref (q 10)), some (.int (nI i)), some (.int (nI i))]) X d_O_redo_30 (by decide) rfl ?_
        refine zr_iinc (v := nI (i + 1)) (lv' := [some (.ref (q 10)), some (.int (nI i)), some (.int (nI (i + 1)))]) X d_O_redo_31 rfl (nI_1 _) (by decide) rfl ?_
        refine zr_goto (tgt := 4) X d_O_redo_34 rfl ?_
        have h9 := ih (i + 1) (by omega) (by omega)
        rw [show zlt pa th (i + 1) = some i from if_pos ⟨hi0, k22⟩] at h9
        exact h9
  refine zr_iconst (v := (-1)) X d_O_redo_0 (by decide) ?_
  refine zr_istore_n (lv' := [some (.ref (q 10)), some (.int ((-1))), none]) X d_O_redo_1 (by decide) rfl ?_
  refine zr_iconst (v := nI 1) X d_O_redo_2 (by decide) ?_
  refine zr_istore_n (lv' := [some (.ref (q 10)), some (.int ((-1))), some (.int (nI 1))]) X d_O_redo_3 (by decide) rfl ?_
  have h9 := loop (n - 1) 1 (by omega) (by omega)
  rw [zlt_1] at h9
  exact h9

set_option maxRecDepth 100000 in
set_option maxHeartbeats 4000000 in
theorem c_O_leads {l : Launch} {D : va_G} {cI cC cZ cV : ClassId} {N : Nat} {q : Nat → Nat} {f : zF} (hN : 23 ≤ N) {n po th sz ty : Nat} (h10 : f 10 = zmo q n po th sz ty) {pa : Nat → Int32} (h11 : f 11 = .inl (cI, 122, .inl pa)) {par : Nat → Nat} (hp : ∀ v, 0 < v → v < n → par v < v) (hp0 : par 0 = 0) (hpa : ∀ v, 0 < v → v < n → pa v = nI (par v)) (hn : n ≤ 122) {v to : Nat} (hv : v < n) (hto : to < n) : zC l y_O_leads b_O_leads 4 (some .boolean) (rmD 0 0 0) D (zty cI cC cZ cV) [.ref (q 10), .int (nI v), .int (nI to)] N q f (pI N q (fun r f' => f' = f ∧ ((r = nI 1 ∧ ∃ k, zit par to k = v) ∨ (r = nI 0 ∧ ∀ k, zit par to k ≠ v)))) := by
  refine zC.of (by decide) (by simp [Value.category]) (Nat.le_of_ble_eq_true rfl) (fun G X Y => ?_)
  show G 0 0 0 [some (.ref (q 10)), some (.int (nI v)), some (.int (nI to)), none] [] N q f
  have loop : ∀ (d i : Nat), zit par to i ≤ d → (∀ k, k < i → zit par to k ≠ v) → G 0 0 2 [some (.ref (q 10)), some (.int (nI v)), some (.int (nI to)), some (.int (nI (zit par to i)))] [] N q f := by
    intro d
    induction d with
    | zero =>
      intro i hd hb
      have hzn := zit_lt hp hp0 hto i
      have hle : zit par to i ≤ v := by omega
      by_cases he : zit par to i = v
      · skip
        show G 0 0 2 [some (.ref (q 10)), some (.int (nI v)), some (.int (nI to)), some (.int (nI (zit par to i)))] [] N q f
        refine zr_iload_n X d_O_leads_2 rfl ?_
        refine zr_iload_n X d_O_leads_3 rfl ?_
        refine zr_icmp_let (tgt := 17) X d_O_leads_4 rfl (nI_le (by omega) (by omega)) ?_
        refine zr_iload_n X d_O_leads_17 rfl ?_
        refine zr_iload_n X d_O_leads_18 rfl ?_
        refine zr_icmp_nef (tgt := 26) X d_O_leads_19 rfl (by rw [he]) ?_
        refine zr_iconst (v := nI 1) X d_O_leads_22 (by decide) ?_
        refine zr_goto (tgt := 27) X d_O_leads_23 rfl ?_
        refine zr_ireturn Y d_O_leads_27 rfl (Nat.le_of_ble_eq_true rfl) (Nat.le_of_ble_eq_true rfl) ?_
        exact ⟨_, rfl, rfl, rfl, rfl, Or.inl ⟨rfl, i, he⟩⟩
      · skip
        show G 0 0 2 [some (.ref (q 10)), some (.int (nI v)), some (.int (nI to)), some (.int (nI (zit par to i)))] [] N q f
        refine zr_iload_n X d_O_leads_2 rfl ?_
        refine zr_iload_n X d_O_leads_3 rfl ?_
        refine zr_icmp_let (tgt := 17) X d_O_leads_4 rfl (nI_le (by omega) (by omega)) ?_
        refine zr_iload_n X d_O_leads_17 rfl ?_
        refine zr_iload_n X d_O_leads_18 rfl ?_
        refine zr_icmp_net (tgt := 26) X d_O_leads_19 rfl (fun h9 => he ((nI_eq (by omega) (by omega)).mp h9)) ?_
        refine zr_iconst (v := nI 0) X d_O_leads_26 (by decide) ?_
        refine zr_ireturn Y d_O_leads_27 rfl (Nat.le_of_ble_eq_true rfl) (Nat.le_of_ble_eq_true rfl) ?_
        refine ⟨_, rfl, rfl, rfl, rfl, Or.inr ⟨rfl, fun k h9 => ?_⟩⟩
        by_cases hk : k < i
        · exact hb k hk h9
        · have := zit_mono hp hp0 hto (show i ≤ k by omega)
          omega
    | succ d ih =>
      intro i hd hb
      have hzn := zit_lt hp hp0 hto i
      by_cases hle : zit par to i ≤ v
      · skip
        by_cases he : zit par to i = v
        · skip
          show G 0 0 2 [some (.ref (q 10)), some (.int (nI v)), some (.int (nI to)), some (.int (nI (zit par to i)))] [] N q f
          refine zr_iload_n X d_O_leads_2 rfl ?_
          refine zr_iload_n X d_O_leads_3 rfl ?_
          refine zr_icmp_let (tgt := 17) X d_O_leads_4 rfl (nI_le (by omega) (by omega)) ?_
          refine zr_iload_n X d_O_leads_17 rfl ?_
          refine zr_iload_n X d_O_leads_18 rfl ?_
          refine zr_icmp_nef (tgt := 26) X d_O_leads_19 rfl (by rw [he]) ?_
          refine zr_iconst (v := nI 1) X d_O_leads_22 (by decide) ?_
          refine zr_goto (tgt := 27) X d_O_leads_23 rfl ?_
          refine zr_ireturn Y d_O_leads_27 rfl (Nat.le_of_ble_eq_true rfl) (Nat.le_of_ble_eq_true rfl) ?_
          exact ⟨_, rfl, rfl, rfl, rfl, Or.inl ⟨rfl, i, he⟩⟩
        · skip
          show G 0 0 2 [some (.ref (q 10)), some (.int (nI v)), some (.int (nI to)), some (.int (nI (zit par to i)))] [] N q f
          refine zr_iload_n X d_O_leads_2 rfl ?_
          refine zr_iload_n X d_O_leads_3 rfl ?_
          refine zr_icmp_let (tgt := 17) X d_O_leads_4 rfl (nI_le (by omega) (by omega)) ?_
          refine zr_iload_n X d_O_leads_17 rfl ?_
          refine zr_iload_n X d_O_leads_18 rfl ?_
          refine zr_icmp_net (tgt := 26) X d_O_leads_19 rfl (fun h9 => he ((nI_eq (by omega) (by omega)).mp h9)) ?_
          refine zr_iconst (v := nI 0) X d_O_leads_26 (by decide) ?_
          refine zr_ireturn Y d_O_leads_27 rfl (Nat.le_of_ble_eq_true rfl) (Nat.le_of_ble_eq_true rfl) ?_
          refine ⟨_, rfl, rfl, rfl, rfl, Or.inr ⟨rfl, fun k h9 => ?_⟩⟩
          by_cases hk : k < i
          · exact hb k hk h9
          · have := zit_mono hp hp0 hto (show i ≤ k by omega)
            omega
      · skip
        have hlt := hp _ (show 0 < zit par to i by omega) hzn
        show G 0 0 2 [some (.ref (q 10)), some (.int (nI v)), some (.int (nI to)), some (.int (nI (zit par to i)))] [] N q f
        refine zr_iload_n X d_O_leads_2 rfl ?_
        refine zr_iload_n X d_O_leads_3 rfl ?_
        refine zr_icmp_lef (tgt := 17) X d_O_leads_4 rfl (nI_ge (by omega) (by omega)) ?_
        refine zr_aload_n X d_O_leads_7 rfl ?_
        refine zr_get X F_O_13 d_O_leads_8 (by omega) h10 (v := .ref (q 11)) rfl ?_
        refine zr_iload_n X d_O_leads_11 rfl ?_
        refine zr_iaload (v := nI (zit par to (i + 1))) X 0 d_O_leads_12 (by omega) h11 rfl (by omega) (by decide) (hpa _ (by omega) hzn) ?_
        refine zr_istore_n (lv' := [some (.ref (q 10)), some (.int (nI v)), some (.int (nI to)), some (.int (nI (zit par to (i + 1))))]) X d_O_leads_13 (by decide) rfl ?_
        refine zr_goto (tgt := 2) X d_O_leads_14 rfl ?_
        exact ih (i + 1) (by show par (zit par to i) ≤ d; omega) (fun k hk => by
          by_cases h8 : k = i
          · rw [h8]; omega
          · exact hb k (by omega))
  refine zr_iload_n X d_O_leads_0 rfl ?_
  refine zr_istore_n (lv' := [some (.ref (q 10)), some (.int (nI v)), some (.int (nI to)), some (.int (nI to))]) X d_O_leads_1 (by decide) rfl ?_
  exact loop to 0 (Nat.le_refl _) (fun k hk => absurd hk (Nat.not_lt_zero _))

set_option maxRecDepth 100000 in
set_option maxHeartbeats 4000000 in
theorem c_O_next {l : Launch} {D : va_G} {cI cC cZ cV : ClassId} {N : Nat} {q : Nat → Nat} {f : zF} (hN : 23 ≤ N) {n po th sz ty : Nat} (h10 : f 10 = zmo q n po th sz ty) {pa : Nat → Int32} (h11 : f 11 = .inl (cI, 122, .inl pa)) {par : Nat → Nat} (hp : ∀ v, 0 < v → v < n → par v < v) (hp0 : par 0 = 0) (hpa : ∀ v, 0 < v → v < n → pa v = nI (par v)) (hn : n ≤ 122) {to J : Nat} (hto : to < n) (hJ : zit par to (J + 1) = th) (hmin : ∀ k, k ≤ J → zit par to k ≠ th) : zC l y_O_next b_O_next 3 (some .int) (rmD 0 0 0) D (zty cI cC cZ cV) [.ref (q 10), .int (nI to)] N q f (pRd N q f (nI (zit par to J))) := by
  refine zC.of (by decide) (by simp [Value.category]) (Nat.le_of_ble_eq_true rfl) (fun G X Y => ?_)
  show G 0 0 0 [some (.ref (q 10)), some (.int (nI to)), none] [] N q f
  have hthn : th < n := by rw [← hJ]; exact zit_lt hp hp0 hto _
  have hpos : ∀ k, k ≤ J → 0 < zit par to k := fun k hk => by
    by_cases h : zit par to k = 0
    · have h1 := zit_zero hp0 h (J + 1 - k)
      rw [show k + (J + 1 - k) = J + 1 by omega, hJ] at h1
      exact absurd (h.trans h1.symm) (hmin k hk)
    · omega
  have loop : ∀ (d i : Nat), i + d = J → G 0 0 2 [some (.ref (q 10)), some (.int (nI to)), some (.int (nI (zit par to i)))] [] N q f := by
    intro d
    induction d with
    | zero =>
      intro i hi
      have hzn := zit_lt hp hp0 hto i
      have hi2 : i = J := by omega
      subst hi2
      have hpos := hpos i (Nat.le_refl _)
      show G 0 0 2 [some (.ref (q 10)), some (.int (nI to)), some (.int (nI (zit par to i)))] [] N q f
      refine zr_aload_n X d_O_next_2 rfl ?_
      refine zr_get X F_O_13 d_O_next_3 (by omega) h10 (v := .ref (q 11)) rfl ?_
      refine zr_iload_n X d_O_next_6 rfl ?_
      refine zr_iaload (v := nI (par (zit par to i))) X 0 d_O_next_7 (by omega) h11 rfl (by omega) (by decide) (hpa _ hpos hzn) ?_
      refine zr_aload_n X d_O_next_8 rfl ?_
      refine zr_get X F_O_62 d_O_next_9 (by omega) h10 (v := .int (nI th)) rfl ?_
      refine zr_icmp_eqt (tgt := 25) X d_O_next_12 rfl (by rw [← hJ]; rfl) ?_
      refine zr_iload_n X d_O_next_25 rfl ?_
      refine zr_ireturn Y d_O_next_26 rfl (Nat.le_of_ble_eq_true rfl) (Nat.le_of_ble_eq_true rfl) ?_
      exact ⟨rfl, rfl, rfl, rfl⟩
    | succ d ih =>
      intro i hi
      have hzn := zit_lt hp hp0 hto i
      have hzn2 := zit_lt hp hp0 hto (i + 1)
      have hpo := hpos i (by omega)
      show G 0 0 2 [some (.ref (q 10)), some (.int (nI to)), some (.int (nI (zit par to i)))] [] N q f
      refine zr_aload_n X d_O_next_2 rfl ?_
      refine zr_get X F_O_13 d_O_next_3 (by omega) h10 (v := .ref (q 11)) rfl ?_
      refine zr_iload_n X d_O_next_6 rfl ?_
      refine zr_iaload (v := nI (zit par to (i + 1))) X 0 d_O_next_7 (by omega) h11 rfl (by omega) (by decide) (hpa _ hpo hzn) ?_
      refine zr_aload_n X d_O_next_8 rfl ?_
      refine zr_get X F_O_62 d_O_next_9 (by omega) h10 (v := .int (nI th)) rfl ?_
      refine zr_icmp_eqf (tgt := 25) X d_O_next_12 rfl (fun h9 => hmin (i + 1) (by omega) ((nI_eq (by omega) (by omega)).mp h9)) ?_
      refine zr_aload_n X d_O_next_15 rfl ?_
      refine zr_get X F_O_13 d_O_next_16 (by omega) h10 (v := .ref (q 11)) rfl ?_
      refine zr_iload_n X d_O_next_19 rfl ?_
      refine zr_iaload (v := nI (zit par to (i + 1))) X 0 d_O_next_20 (by omega) h11 rfl (by omega) (by decide) (hpa _ hpo hzn) ?_
      refine zr_istore_n (lv' := [some (.ref (q 10)), some (.int (nI to)), some (.int (nI (zit par to (i + 1))))]) X d_O_next_21 (by decide) rfl ?_
      refine zr_goto (tgt := 2) X d_O_next_22 rfl ?_
      exact ih (i + 1) (by omega)
  refine zr_iload_n X d_O_next_0 rfl ?_
  refine zr_istore_n (lv' := [some (.ref (q 10)), some (.int (nI to)), some (.int (nI to))]) X d_O_next_1 (by decide) rfl ?_
  exact loop J 0 (by omega)
