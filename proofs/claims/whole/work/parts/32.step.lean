/-- an edit done: b, characters come; else they go -/
def zbi (b : Bool) : Int32 := if b then nI 1 else nI 0
def zoT (b : Bool) (tx gp : Nat → Int32) (p c sz : Nat) : Nat → Int32 := if b then zopen tx gp p c sz else zclose tx p c sz
def zoS (b : Bool) (sz c : Nat) : Nat := if b then sz + c else sz - c
def zoM (b : Bool) (p c : Nat) (mp mr : Nat → Int32) : Nat → Int32 := if b then zst 6 (fun m => zcm (nI p) (nI c) (mp m) (mr m)) mp else zst 6 (fun m => zgm (nI p) (nI c) (mp m)) mp
def zoK (b : Bool) (p c sz : Nat) : Prop := if b then p ≤ sz ∧ sz + c ≤ 2000 else p + c ≤ sz ∧ sz ≤ 2000

set_option maxRecDepth 100000 in
set_option maxHeartbeats 4000000 in
theorem c_B_putIn {l : Launch} {D : va_G} {cI cC cZ cV : ClassId} {N : Nat} {q : Nat → Nat} {f : zF} (hN : 23 ≤ N) {n ins jt : Nat} (h0 : f 0 = zbo q n ins jt) {sz : Nat} (h1 : f 1 = zrow q 2 sz) {tx : Nat → Int32} (h2 : f 2 = .inl (cC, 2000, .inl tx))  (h5 : f 5 = .inr (iM, [.ref (q 6), .ref (q 7)])) {mp : Nat → Int32} (h6 : f 6 = .inl (cI, 6, .inl mp)) {mr : Nat → Int32} (h7 : f 7 = .inl (cZ, 6, .inl mr)) {jp p c : Nat} {gp : Nat → Int32} (hjp : jp < N) (h23 : 23 ≤ jp) (hfp : f jp = .inl (cC, c, .inl gp)) (htx : zCh tx) (hgp : zCh gp) (hps : p ≤ sz) (hsz : sz + c ≤ 2000) : zC l y_B_putIn b_B_putIn 3 none (rmD 2 0 0) D (zty cI cC cZ cV) [.ref (q 0), .int (nI p), .ref (q jp)] N q f (pW N q (va_up (va_up (va_up f 2 (.inl (cC, 2000, .inl (zopen tx gp p c sz)))) 1 (zrow q 2 (sz + c))) 6 (.inl (cI, 6, .inl (zst 6 (fun m => zcm (nI p) (nI c) (mp m) (mr m)) mp))))) := by
  refine zC.of (by decide) (by simp [Value.category]) (Nat.le_of_ble_eq_true rfl) (fun G X Y => ?_)
  show G 0 0 0 [some (.ref (q 0)), some (.int (nI p)), some (.ref (q jp))] [] N q f
  refine zr_aload_n X d_B_putIn_0 rfl ?_
  refine zr_get X F_B_14 d_B_putIn_1 (by omega) h0 (v := .ref (q 1)) rfl ?_
  refine zr_iload_n X d_B_putIn_4 rfl ?_
  refine zr_aload_n X d_B_putIn_5 rfl ?_
  refine zr_callV X K_B_153 KI_B_153 KS_B_153 (c_R_open (by omega) h1 (by omega) h2 hjp hfp (by decide) (by omega) (by omega) htx hgp (by decide) hps hsz) d_B_putIn_6 (by omega) h1 rfl rfl (by decide) (Nat.le_of_ble_eq_true rfl) (by decide) (st := []) rfl (kW ?_)
  show G 0 0 9 [some (.ref (q 0)), some (.int (nI p)), some (.ref (q jp))] [] N q (va_up (va_up f 2 (.inl (cC, 2000, .inl (zopen tx gp p c sz)))) 1 (.inr (iR, [.ref (q 2), .int (nI (sz + c))])))
  refine zr_aload_n X d_B_putIn_9 rfl ?_
  refine zr_get X F_B_24 d_B_putIn_10 (by omega) (up_ne (by decide) (up_ne (by decide) h0)) (v := .ref (q 5)) rfl ?_
  refine zr_iload_n X d_B_putIn_13 rfl ?_
  refine zr_aload_n X d_B_putIn_14 rfl ?_
  refine zr_alen X 1 d_B_putIn_15 (by omega) (up_ne (by omega) (up_ne (by omega) hfp)) rfl ?_
  refine zr_callV X K_B_156 KI_B_156 KS_B_156 (c_M_coming (by omega) (up_ne (by decide) (up_ne (by decide) h5)) (by omega) (up_ne (by decide) (up_ne (by decide) h6)) (by omega) (up_ne (by decide) (up_ne (by decide) h7)) (by decide) (by decide)) d_B_putIn_16 (by omega) (up_ne (by decide) (up_ne (by decide) h5)) rfl rfl (by decide) (Nat.le_of_ble_eq_true rfl) (by decide) (st := []) rfl (kW ?_)
  show G 0 0 19 [some (.ref (q 0)), some (.int (nI p)), some (.ref (q jp))] [] N q (va_up (va_up (va_up f 2 (.inl (cC, 2000, .inl (zopen tx gp p c sz)))) 1 (.inr (iR, [.ref (q 2), .int (nI (sz + c))]))) 6 (.inl (cI, 6, .inl (zst 6 (fun m => zcm (nI p) (nI c) (mp m) (mr m)) mp))))
  refine zr_return Y d_B_putIn_19 (Nat.le_of_ble_eq_true rfl) (Nat.le_of_ble_eq_true rfl) ?_
  exact ⟨rfl, rfl, rfl, rfl⟩

set_option maxRecDepth 100000 in
set_option maxHeartbeats 4000000 in
theorem c_B_takeOut {l : Launch} {D : va_G} {cI cC cZ cV : ClassId} {N : Nat} {q : Nat → Nat} {f : zF} (hN : 23 ≤ N) {n ins jt : Nat} (h0 : f 0 = zbo q n ins jt) {sz : Nat} (h1 : f 1 = zrow q 2 sz) {tx : Nat → Int32} (h2 : f 2 = .inl (cC, 2000, .inl tx))  (h5 : f 5 = .inr (iM, [.ref (q 6), .ref (q 7)])) {mp : Nat → Int32} (h6 : f 6 = .inl (cI, 6, .inl mp)) {mr : Nat → Int32} (h7 : f 7 = .inl (cZ, 6, .inl mr)) {p c : Nat} (htx : zCh tx) (hps : p + c ≤ sz) (hsz : sz ≤ 2000) : zC l y_B_takeOut b_B_takeOut 3 none (rmD 2 0 0) D (zty cI cC cZ cV) [.ref (q 0), .int (nI p), .int (nI c)] N q f (pW N q (va_up (va_up (va_up f 2 (.inl (cC, 2000, .inl (zclose tx p c sz)))) 1 (zrow q 2 (sz - c))) 6 (.inl (cI, 6, .inl (zst 6 (fun m => zgm (nI p) (nI c) (mp m)) mp))))) := by
  refine zC.of (by decide) (by simp [Value.category]) (Nat.le_of_ble_eq_true rfl) (fun G X Y => ?_)
  show G 0 0 0 [some (.ref (q 0)), some (.int (nI p)), some (.int (nI c))] [] N q f
  refine zr_aload_n X d_B_takeOut_0 rfl ?_
  refine zr_get X F_B_14 d_B_takeOut_1 (by omega) h0 (v := .ref (q 1)) rfl ?_
  refine zr_iload_n X d_B_takeOut_4 rfl ?_
  refine zr_iload_n X d_B_takeOut_5 rfl ?_
  refine zr_callV X K_B_159 KI_B_159 KS_B_159 (c_R_close (by omega) h1 (by omega) h2 (by decide) htx (by decide) hps hsz) d_B_takeOut_6 (by omega) h1 rfl rfl (by decide) (Nat.le_of_ble_eq_true rfl) (by decide) (st := []) rfl (kW ?_)
  show G 0 0 9 [some (.ref (q 0)), some (.int (nI p)), some (.int (nI c))] [] N q (va_up (va_up f 2 (.inl (cC, 2000, .inl (zclose tx p c sz)))) 1 (.inr (iR, [.ref (q 2), .int (nI (sz - c))])))
  refine zr_aload_n X d_B_takeOut_9 rfl ?_
  refine zr_get X F_B_24 d_B_takeOut_10 (by omega) (up_ne (by decide) (up_ne (by decide) h0)) (v := .ref (q 5)) rfl ?_
  refine zr_iload_n X d_B_takeOut_13 rfl ?_
  refine zr_iload_n X d_B_takeOut_14 rfl ?_
  refine zr_callV X K_B_162 KI_B_162 KS_B_162 (c_M_going (by omega) (up_ne (by decide) (up_ne (by decide) h5)) (by omega) (up_ne (by decide) (up_ne (by decide) h6)) (by omega) (up_ne (by decide) (up_ne (by decide) h7)) (by decide) (by decide)) d_B_takeOut_15 (by omega) (up_ne (by decide) (up_ne (by decide) h5)) rfl rfl (by decide) (Nat.le_of_ble_eq_true rfl) (by decide) (st := []) rfl (kW ?_)
  show G 0 0 18 [some (.ref (q 0)), some (.int (nI p)), some (.int (nI c))] [] N q (va_up (va_up (va_up f 2 (.inl (cC, 2000, .inl (zclose tx p c sz)))) 1 (.inr (iR, [.ref (q 2), .int (nI (sz - c))]))) 6 (.inl (cI, 6, .inl (zst 6 (fun m => zgm (nI p) (nI c) (mp m)) mp))))
  refine zr_return Y d_B_takeOut_18 (Nat.le_of_ble_eq_true rfl) (Nat.le_of_ble_eq_true rfl) ?_
  exact ⟨rfl, rfl, rfl, rfl⟩

set_option maxRecDepth 100000 in
set_option maxHeartbeats 4000000 in
theorem c_B_stepOnTo_1 {l : Launch} {D : va_G} {cI cC cZ cV : ClassId} {N : Nat} {q : Nat → Nat} {f : zF} (hN : 23 ≤ N) {n ins jt : Nat} (h0 : f 0 = zbo q n ins jt) {sz : Nat} (h1 : f 1 = zrow q 2 sz) {tx : Nat → Int32} (h2 : f 2 = .inl (cC, 2000, .inl tx))  (h5 : f 5 = .inr (iM, [.ref (q 6), .ref (q 7)])) {mp : Nat → Int32} (h6 : f 6 = .inl (cI, 6, .inl mp)) {mr : Nat → Int32} (h7 : f 7 = .inl (cZ, 6, .inl mr)) {jp p c : Nat} {gp : Nat → Int32} (hjp : jp < N) (h23 : 23 ≤ jp) (hfp : f jp = .inl (cC, c, .inl gp)) (htx : zCh tx) (hgp : zCh gp) {jv num cc : Nat} {pr lat : Value} (hjv : jv < N) (hj23 : 23 ≤ jv) (hv : f jv = zver q num pr (nI 1) p jp cc lat) (hps : p ≤ sz) (hsz : sz + c ≤ 2000) : zC l y_B_stepOnTo b_B_stepOnTo 2 none (rmD 3 0 0) D (zty cI cC cZ cV) [.ref (q 0), .ref (q jv)] N q f (pW N q (va_up (va_up (va_up (va_up f 2 (.inl (cC, 2000, .inl (zopen tx gp p c sz)))) 1 (zrow q 2 (sz + c))) 6 (.inl (cI, 6, .inl (zst 6 (fun m => zcm (nI p) (nI c) (mp m) (mr m)) mp)))) 0 (zbo q n ins jv))) := by
  refine zC.of (by decide) (by simp [Value.category]) (Nat.le_of_ble_eq_true rfl) (fun G X Y => ?_)
  show G 0 0 0 [some (.ref (q 0)), some (.ref (q jv))] [] N q f
  refine zr_aload_n X d_B_stepOnTo_0 rfl ?_
  refine zr_get X F_B_135 d_B_stepOnTo_1 (by omega) hv (v := .int (nI 1)) rfl ?_
  refine zr_if_eqf (tgt := 22) X d_B_stepOnTo_4 rfl (by decide) ?_
  refine zr_aload_n X d_B_stepOnTo_7 rfl ?_
  refine zr_aload_n X d_B_stepOnTo_8 rfl ?_
  refine zr_get X F_B_139 d_B_stepOnTo_9 (by omega) hv (v := .int (nI p)) rfl ?_
  refine zr_aload_n X d_B_stepOnTo_12 rfl ?_
  refine zr_get X F_B_142 d_B_stepOnTo_13 (by omega) hv (v := .ref (q jp)) rfl ?_
  refine zr_callV X K_B_149 KI_B_149 KS_B_149 (c_B_putIn hN h0 h1 h2 h5 h6 h7 hjp h23 hfp htx hgp hps hsz) d_B_stepOnTo_16 (by omega) h0 rfl rfl (by decide) (Nat.le_of_ble_eq_true rfl) (by decide) (st := []) rfl (kW ?_)
  show G 0 0 19 [some (.ref (q 0)), some (.ref (q jv))] [] N q (va_up (va_up (va_up f 2 (.inl (cC, 2000, .inl (zopen tx gp p c sz)))) 1 (.inr (iR, [.ref (q 2), .int (nI (sz + c))]))) 6 (.inl (cI, 6, .inl (zst 6 (fun m => zcm (nI p) (nI c) (mp m) (mr m)) mp))))
  refine zr_goto (tgt := 35) X d_B_stepOnTo_19 rfl ?_
  refine zr_aload_n X d_B_stepOnTo_35 rfl ?_
  refine zr_aload_n X d_B_stepOnTo_36 rfl ?_
  refine zr_put (fs' := [.ref (q 1), .ref (q 3), .ref (q 5), .ref (q 8), .ref (q 9), .int (nI n), .int (nI ins), .ref (q jv)]) X F_B_40 d_B_stepOnTo_37 (by omega) (up_ne (by decide) (up_ne (by decide) (up_ne (by decide) h0))) rfl rfl (Nat.le_of_ble_eq_true rfl) rfl ?_
  refine zr_return Y d_B_stepOnTo_40 (Nat.le_of_ble_eq_true rfl) (Nat.le_of_ble_eq_true rfl) ?_
  exact ⟨rfl, rfl, rfl, rfl⟩

set_option maxRecDepth 100000 in
set_option maxHeartbeats 4000000 in
theorem c_B_stepBackTo_1 {l : Launch} {D : va_G} {cI cC cZ cV : ClassId} {N : Nat} {q : Nat → Nat} {f : zF} (hN : 23 ≤ N) {n ins jv : Nat} (h0 : f 0 = zbo q n ins jv) {sz : Nat} (h1 : f 1 = zrow q 2 sz) {tx : Nat → Int32} (h2 : f 2 = .inl (cC, 2000, .inl tx))  (h5 : f 5 = .inr (iM, [.ref (q 6), .ref (q 7)])) {mp : Nat → Int32} (h6 : f 6 = .inl (cI, 6, .inl mp)) {mr : Nat → Int32} (h7 : f 7 = .inl (cZ, 6, .inl mr)) {jp p c : Nat} {gp : Nat → Int32} (hjp : jp < N) (h23 : 23 ≤ jp) (hfp : f jp = .inl (cC, c, .inl gp)) (htx : zCh tx) (hgp : zCh gp) {num cc : Nat} {pr lat : Value} (hjv : jv < N) (hj23 : 23 ≤ jv) (hv : f jv = zver q num pr (nI 1) p jp cc lat) (hps : p + c ≤ sz) (hsz : sz ≤ 2000) {ju : Nat} : zC l y_B_stepBackTo b_B_stepBackTo 2 none (rmD 3 0 0) D (zty cI cC cZ cV) [.ref (q 0), .ref (q ju)] N q f (pW N q (va_up (va_up (va_up (va_up f 2 (.inl (cC, 2000, .inl (zclose tx p c sz)))) 1 (zrow q 2 (sz - c))) 6 (.inl (cI, 6, .inl (zst 6 (fun m => zgm (nI p) (nI c) (mp m)) mp)))) 0 (zbo q n ins ju))) := by
  refine zC.of (by decide) (by simp [Value.category]) (Nat.le_of_ble_eq_true rfl) (fun G X Y => ?_)
  show G 0 0 0 [some (.ref (q 0)), some (.ref (q ju))] [] N q f
  refine zr_aload_n X d_B_stepBackTo_0 rfl ?_
  refine zr_get X F_B_40 d_B_stepBackTo_1 (by omega) h0 (v := .ref (q jv)) rfl ?_
  refine zr_get X F_B_135 d_B_stepBackTo_4 (by omega) hv (v := .int (nI 1)) rfl ?_
  refine zr_if_eqf (tgt := 32) X d_B_stepBackTo_7 rfl (by decide) ?_
  refine zr_aload_n X d_B_stepBackTo_10 rfl ?_
  refine zr_aload_n X d_B_stepBackTo_11 rfl ?_
  refine zr_get X F_B_40 d_B_stepBackTo_12 (by omega) h0 (v := .ref (q jv)) rfl ?_
  refine zr_get X F_B_139 d_B_stepBackTo_15 (by omega) hv (v := .int (nI p)) rfl ?_
  refine zr_aload_n X d_B_stepBackTo_18 rfl ?_
  refine zr_get X F_B_40 d_B_stepBackTo_19 (by omega) h0 (v := .ref (q jv)) rfl ?_
  refine zr_get X F_B_142 d_B_stepBackTo_22 (by omega) hv (v := .ref (q jp)) rfl ?_
  refine zr_alen X 1 d_B_stepBackTo_25 (by omega) hfp rfl ?_
  refine zr_callV X K_B_145 KI_B_145 KS_B_145 (c_B_takeOut hN h0 h1 h2 h5 h6 h7 htx hps hsz) d_B_stepBackTo_26 (by omega) h0 rfl rfl (by decide) (Nat.le_of_ble_eq_true rfl) (by decide) (st := []) rfl (kW ?_)
  show G 0 0 29 [some (.ref (q 0)), some (.ref (q ju))] [] N q (va_up (va_up (va_up f 2 (.inl (cC, 2000, .inl (zclose tx p c sz)))) 1 (.inr (iR, [.ref (q 2), .int (nI (sz - c))]))) 6 (.inl (cI, 6, .inl (zst 6 (fun m => zgm (nI p) (nI c) (mp m)) mp))))
  refine zr_goto (tgt := 50) X d_B_stepBackTo_29 rfl ?_
  refine zr_aload_n X d_B_stepBackTo_50 rfl ?_
  refine zr_aload_n X d_B_stepBackTo_51 rfl ?_
  refine zr_put (fs' := [.ref (q 1), .ref (q 3), .ref (q 5), .ref (q 8), .ref (q 9), .int (nI n), .int (nI ins), .ref (q ju)]) X F_B_40 d_B_stepBackTo_52 (by omega) (up_ne (by decide) (up_ne (by decide) (up_ne (by decide) h0))) rfl rfl (Nat.le_of_ble_eq_true rfl) rfl ?_
  refine zr_return Y d_B_stepBackTo_55 (Nat.le_of_ble_eq_true rfl) (Nat.le_of_ble_eq_true rfl) ?_
  exact ⟨rfl, rfl, rfl, rfl⟩

set_option maxRecDepth 100000 in
set_option maxHeartbeats 4000000 in
theorem c_B_stepOnTo_0 {l : Launch} {D : va_G} {cI cC cZ cV : ClassId} {N : Nat} {q : Nat → Nat} {f : zF} (hN : 23 ≤ N) {n ins jt : Nat} (h0 : f 0 = zbo q n ins jt) {sz : Nat} (h1 : f 1 = zrow q 2 sz) {tx : Nat → Int32} (h2 : f 2 = .inl (cC, 2000, .inl tx))  (h5 : f 5 = .inr (iM, [.ref (q 6), .ref (q 7)])) {mp : Nat → Int32} (h6 : f 6 = .inl (cI, 6, .inl mp)) {mr : Nat → Int32} (h7 : f 7 = .inl (cZ, 6, .inl mr)) {jp p c : Nat} {gp : Nat → Int32} (hjp : jp < N) (h23 : 23 ≤ jp) (hfp : f jp = .inl (cC, c, .inl gp)) (htx : zCh tx) (hgp : zCh gp) {jv num cc : Nat} {pr lat : Value} (hjv : jv < N) (hj23 : 23 ≤ jv) (hv : f jv = zver q num pr (nI 0) p jp cc lat) (hps : p + c ≤ sz) (hsz : sz ≤ 2000) : zC l y_B_stepOnTo b_B_stepOnTo 2 none (rmD 3 0 0) D (zty cI cC cZ cV) [.ref (q 0), .ref (q jv)] N q f (pW N q (va_up (va_up (va_up (va_up f 2 (.inl (cC, 2000, .inl (zclose tx p c sz)))) 1 (zrow q 2 (sz - c))) 6 (.inl (cI, 6, .inl (zst 6 (fun m => zgm (nI p) (nI c) (mp m)) mp)))) 0 (zbo q n ins jv))) := by
  refine zC.of (by decide) (by simp [Value.category]) (Nat.le_of_ble_eq_true rfl) (fun G X Y => ?_)
  show G 0 0 0 [some (.ref (q 0)), some (.ref (q jv))] [] N q f
  refine zr_aload_n X d_B_stepOnTo_0 rfl ?_
  refine zr_get X F_B_135 d_B_stepOnTo_1 (by omega) hv (v := .int (nI 0)) rfl ?_
  refine zr_if_eqt (tgt := 22) X d_B_stepOnTo_4 rfl (by decide) ?_
  refine zr_aload_n X d_B_stepOnTo_22 rfl ?_
  refine zr_aload_n X d_B_stepOnTo_23 rfl ?_
  refine zr_get X F_B_139 d_B_stepOnTo_24 (by omega) hv (v := .int (nI p)) rfl ?_
  refine zr_aload_n X d_B_stepOnTo_27 rfl ?_
  refine zr_get X F_B_142 d_B_stepOnTo_28 (by omega) hv (v := .ref (q jp)) rfl ?_
  refine zr_alen X 1 d_B_stepOnTo_31 (by omega) hfp rfl ?_
  refine zr_callV X K_B_145 KI_B_145 KS_B_145 (c_B_takeOut hN h0 h1 h2 h5 h6 h7 htx hps hsz) d_B_stepOnTo_32 (by omega) h0 rfl rfl (by decide) (Nat.le_of_ble_eq_true rfl) (by decide) (st := []) rfl (kW ?_)
  show G 0 0 35 [some (.ref (q 0)), some (.ref (q jv))] [] N q (va_up (va_up (va_up f 2 (.inl (cC, 2000, .inl (zclose tx p c sz)))) 1 (.inr (iR, [.ref (q 2), .int (nI (sz - c))]))) 6 (.inl (cI, 6, .inl (zst 6 (fun m => zgm (nI p) (nI c) (mp m)) mp))))
  refine zr_aload_n X d_B_stepOnTo_35 rfl ?_
  refine zr_aload_n X d_B_stepOnTo_36 rfl ?_
  refine zr_put (fs' := [.ref (q 1), .ref (q 3), .ref (q 5), .ref (q 8), .ref (q 9), .int (nI n), .int (nI ins), .ref (q jv)]) X F_B_40 d_B_stepOnTo_37 (by omega) (up_ne (by decide) (up_ne (by decide) (up_ne (by decide) h0))) rfl rfl (Nat.le_of_ble_eq_true rfl) rfl ?_
  refine zr_return Y d_B_stepOnTo_40 (Nat.le_of_ble_eq_true rfl) (Nat.le_of_ble_eq_true rfl) ?_
  exact ⟨rfl, rfl, rfl, rfl⟩

set_option maxRecDepth 100000 in
set_option maxHeartbeats 4000000 in
theorem c_B_stepBackTo_0 {l : Launch} {D : va_G} {cI cC cZ cV : ClassId} {N : Nat} {q : Nat → Nat} {f : zF} (hN : 23 ≤ N) {n ins jv : Nat} (h0 : f 0 = zbo q n ins jv) {sz : Nat} (h1 : f 1 = zrow q 2 sz) {tx : Nat → Int32} (h2 : f 2 = .inl (cC, 2000, .inl tx))  (h5 : f 5 = .inr (iM, [.ref (q 6), .ref (q 7)])) {mp : Nat → Int32} (h6 : f 6 = .inl (cI, 6, .inl mp)) {mr : Nat → Int32} (h7 : f 7 = .inl (cZ, 6, .inl mr)) {jp p c : Nat} {gp : Nat → Int32} (hjp : jp < N) (h23 : 23 ≤ jp) (hfp : f jp = .inl (cC, c, .inl gp)) (htx : zCh tx) (hgp : zCh gp) {num cc : Nat} {pr lat : Value} (hjv : jv < N) (hj23 : 23 ≤ jv) (hv : f jv = zver q num pr (nI 0) p jp cc lat) (hps : p ≤ sz) (hsz : sz + c ≤ 2000) {ju : Nat} : zC l y_B_stepBackTo b_B_stepBackTo 2 none (rmD 3 0 0) D (zty cI cC cZ cV) [.ref (q 0), .ref (q ju)] N q f (pW N q (va_up (va_up (va_up (va_up f 2 (.inl (cC, 2000, .inl (zopen tx gp p c sz)))) 1 (zrow q 2 (sz + c))) 6 (.inl (cI, 6, .inl (zst 6 (fun m => zcm (nI p) (nI c) (mp m) (mr m)) mp)))) 0 (zbo q n ins ju))) := by
  refine zC.of (by decide) (by simp [Value.category]) (Nat.le_of_ble_eq_true rfl) (fun G X Y => ?_)
  show G 0 0 0 [some (.ref (q 0)), some (.ref (q ju))] [] N q f
  refine zr_aload_n X d_B_stepBackTo_0 rfl ?_
  refine zr_get X F_B_40 d_B_stepBackTo_1 (by omega) h0 (v := .ref (q jv)) rfl ?_
  refine zr_get X F_B_135 d_B_stepBackTo_4 (by omega) hv (v := .int (nI 0)) rfl ?_
  refine zr_if_eqt (tgt := 32) X d_B_stepBackTo_7 rfl (by decide) ?_
  refine zr_aload_n X d_B_stepBackTo_32 rfl ?_
  refine zr_aload_n X d_B_stepBackTo_33 rfl ?_
  refine zr_get X F_B_40 d_B_stepBackTo_34 (by omega) h0 (v := .ref (q jv)) rfl ?_
  refine zr_get X F_B_139 d_B_stepBackTo_37 (by omega) hv (v := .int (nI p)) rfl ?_
  refine zr_aload_n X d_B_stepBackTo_40 rfl ?_
  refine zr_get X F_B_40 d_B_stepBackTo_41 (by omega) h0 (v := .ref (q jv)) rfl ?_
  refine zr_get X F_B_142 d_B_stepBackTo_44 (by omega) hv (v := .ref (q jp)) rfl ?_
  refine zr_callV X K_B_149 KI_B_149 KS_B_149 (c_B_putIn hN h0 h1 h2 h5 h6 h7 hjp h23 hfp htx hgp hps hsz) d_B_stepBackTo_47 (by omega) h0 rfl rfl (by decide) (Nat.le_of_ble_eq_true rfl) (by decide) (st := []) rfl (kW ?_)
  show G 0 0 50 [some (.ref (q 0)), some (.ref (q ju))] [] N q (va_up (va_up (va_up f 2 (.inl (cC, 2000, .inl (zopen tx gp p c sz)))) 1 (.inr (iR, [.ref (q 2), .int (nI (sz + c))]))) 6 (.inl (cI, 6, .inl (zst 6 (fun m => zcm (nI p) (nI c) (mp m) (mr m)) mp))))
  refine zr_aload_n X d_B_stepBackTo_50 rfl ?_
  refine zr_aload_n X d_B_stepBackTo_51 rfl ?_
  refine zr_put (fs' := [.ref (q 1), .ref (q 3), .ref (q 5), .ref (q 8), .ref (q 9), .int (nI n), .int (nI ins), .ref (q ju)]) X F_B_40 d_B_stepBackTo_52 (by omega) (up_ne (by decide) (up_ne (by decide) (up_ne (by decide) h0))) rfl rfl (Nat.le_of_ble_eq_true rfl) rfl ?_
  refine zr_return Y d_B_stepBackTo_55 (Nat.le_of_ble_eq_true rfl) (Nat.le_of_ble_eq_true rfl) ?_
  exact ⟨rfl, rfl, rfl, rfl⟩

theorem c_B_stepOnTo {l : Launch} {D : va_G} {cI cC cZ cV : ClassId} {N : Nat} {q : Nat → Nat} {f : zF} (hN : 23 ≤ N) {n ins jt : Nat} (h0 : f 0 = zbo q n ins jt) {sz : Nat} (h1 : f 1 = zrow q 2 sz) {tx : Nat → Int32} (h2 : f 2 = .inl (cC, 2000, .inl tx))  (h5 : f 5 = .inr (iM, [.ref (q 6), .ref (q 7)])) {mp : Nat → Int32} (h6 : f 6 = .inl (cI, 6, .inl mp)) {mr : Nat → Int32} (h7 : f 7 = .inl (cZ, 6, .inl mr)) {jp p c : Nat} {gp : Nat → Int32} (hjp : jp < N) (h23 : 23 ≤ jp) (hfp : f jp = .inl (cC, c, .inl gp)) (htx : zCh tx) (hgp : zCh gp) {jv num cc : Nat} {pr lat : Value} {b : Bool} (hjv : jv < N) (hj23 : 23 ≤ jv) (hv : f jv = zver q num pr (zbi b) p jp cc lat) (hok : zoK b p c sz) : zC l y_B_stepOnTo b_B_stepOnTo 2 none (rmD 3 0 0) D (zty cI cC cZ cV) [.ref (q 0), .ref (q jv)] N q f (pW N q (va_up (va_up (va_up (va_up f 2 (.inl (cC, 2000, .inl (zoT b tx gp p c sz)))) 1 (zrow q 2 (zoS b sz c))) 6 (.inl (cI, 6, .inl (zoM b p c mp mr)))) 0 (zbo q n ins jv))) := by
  cases b with
  | true => exact c_B_stepOnTo_1 hN h0 h1 h2 h5 h6 h7 hjp h23 hfp htx hgp hjv hj23 hv hok.1 hok.2
  | false => exact c_B_stepOnTo_0 hN h0 h1 h2 h5 h6 h7 hjp h23 hfp htx hgp hjv hj23 hv hok.1 hok.2

theorem c_B_stepBackTo {l : Launch} {D : va_G} {cI cC cZ cV : ClassId} {N : Nat} {q : Nat → Nat} {f : zF} (hN : 23 ≤ N) {n ins jv : Nat} (h0 : f 0 = zbo q n ins jv) {sz : Nat} (h1 : f 1 = zrow q 2 sz) {tx : Nat → Int32} (h2 : f 2 = .inl (cC, 2000, .inl tx))  (h5 : f 5 = .inr (iM, [.ref (q 6), .ref (q 7)])) {mp : Nat → Int32} (h6 : f 6 = .inl (cI, 6, .inl mp)) {mr : Nat → Int32} (h7 : f 7 = .inl (cZ, 6, .inl mr)) {jp p c : Nat} {gp : Nat → Int32} (hjp : jp < N) (h23 : 23 ≤ jp) (hfp : f jp = .inl (cC, c, .inl gp)) (htx : zCh tx) (hgp : zCh gp) {num cc : Nat} {pr lat : Value} {b : Bool} (hjv : jv < N) (hj23 : 23 ≤ jv) (hv : f jv = zver q num pr (zbi b) p jp cc lat) (hok : zoK (!b) p c sz) {ju : Nat} : zC l y_B_stepBackTo b_B_stepBackTo 2 none (rmD 3 0 0) D (zty cI cC cZ cV) [.ref (q 0), .ref (q ju)] N q f (pW N q (va_up (va_up (va_up (va_up f 2 (.inl (cC, 2000, .inl (zoT (!b) tx gp p c sz)))) 1 (zrow q 2 (zoS (!b) sz c))) 6 (.inl (cI, 6, .inl (zoM (!b) p c mp mr)))) 0 (zbo q n ins ju))) := by
  cases b with
  | true => exact c_B_stepBackTo_1 hN h0 h1 h2 h5 h6 h7 hjp h23 hfp htx hgp hjv hj23 hv hok.1 hok.2
  | false => exact c_B_stepBackTo_0 hN h0 h1 h2 h5 h6 h7 hjp h23 hfp htx hgp hjv hj23 hv hok.1 hok.2

set_option maxRecDepth 100000 in
set_option maxHeartbeats 4000000 in
theorem c_B_undo_0 {l : Launch} {D : va_G} {cI cC cZ cV : ClassId} {N : Nat} {q : Nat → Nat} {f : zF} (hN : 23 ≤ N) {n ins jv : Nat} (h0 : f 0 = zbo q n ins jv) {num at_ jp cc : Nat} {com : Int32} {lat : Value} (hjv : jv < N) (hv : f jv = zver q num .null com at_ jp cc lat) : zC l y_B_undo b_B_undo 2 (some .int) (rmD 4 0 0) D (zty cI cC cZ cV) [.ref (q 0)] N q f (pRd N q f (-1)) := by
  refine zC.of (by decide) (by simp [Value.category]) (Nat.le_of_ble_eq_true rfl) (fun G X Y => ?_)
  show G 0 0 0 [some (.ref (q 0)), none] [] N q f
  refine zr_aload_n X d_B_undo_0 rfl ?_
  refine zr_get X F_B_40 d_B_undo_1 (by omega) h0 (v := .ref (q jv)) rfl ?_
  refine zr_get X F_B_84 d_B_undo_4 (by omega) hv (v := .null) rfl ?_
  refine zr_astore_nN (lv' := [some (.ref (q 0)), some (.null)]) X d_B_undo_7 (by decide) rfl ?_
  refine zr_aload_nN X d_B_undo_8 rfl ?_
  refine zr_ifnonnullN X d_B_undo_9 ?_
  refine zr_iconst (v := (-1)) X d_B_undo_12 (by decide) ?_
  refine zr_ireturn Y d_B_undo_13 rfl (Nat.le_of_ble_eq_true rfl) (Nat.le_of_ble_eq_true rfl) ?_
  exact ⟨rfl, rfl, rfl, rfl⟩

set_option maxRecDepth 100000 in
set_option maxHeartbeats 4000000 in
theorem c_B_redo_0 {l : Launch} {D : va_G} {cI cC cZ cV : ClassId} {N : Nat} {q : Nat → Nat} {f : zF} (hN : 23 ≤ N) {n ins jv : Nat} (h0 : f 0 = zbo q n ins jv) {num at_ jp cc : Nat} {com : Int32} {pr : Value} (hjv : jv < N) (hv : f jv = zver q num pr com at_ jp cc .null) : zC l y_B_redo b_B_redo 2 (some .int) (rmD 4 0 0) D (zty cI cC cZ cV) [.ref (q 0)] N q f (pRd N q f (-1)) := by
  refine zC.of (by decide) (by simp [Value.category]) (Nat.le_of_ble_eq_true rfl) (fun G X Y => ?_)
  show G 0 0 0 [some (.ref (q 0)), none] [] N q f
  refine zr_aload_n X d_B_redo_0 rfl ?_
  refine zr_get X F_B_40 d_B_redo_1 (by omega) h0 (v := .ref (q jv)) rfl ?_
  refine zr_get X F_B_94 d_B_redo_4 (by omega) hv (v := .null) rfl ?_
  refine zr_astore_nN (lv' := [some (.ref (q 0)), some (.null)]) X d_B_redo_7 (by decide) rfl ?_
  refine zr_aload_nN X d_B_redo_8 rfl ?_
  refine zr_ifnonnullN X d_B_redo_9 ?_
  refine zr_iconst (v := (-1)) X d_B_redo_12 (by decide) ?_
  refine zr_ireturn Y d_B_redo_13 rfl (Nat.le_of_ble_eq_true rfl) (Nat.le_of_ble_eq_true rfl) ?_
  exact ⟨rfl, rfl, rfl, rfl⟩

set_option maxRecDepth 100000 in
set_option maxHeartbeats 4000000 in
theorem c_B_undo_y {l : Launch} {D : va_G} {cI cC cZ cV : ClassId} {N : Nat} {q : Nat → Nat} {f : zF} (hN : 23 ≤ N) {n ins jv : Nat} (h0 : f 0 = zbo q n ins jv) {sz : Nat} (h1 : f 1 = zrow q 2 sz) {tx : Nat → Int32} (h2 : f 2 = .inl (cC, 2000, .inl tx))  (h5 : f 5 = .inr (iM, [.ref (q 6), .ref (q 7)])) {mp : Nat → Int32} (h6 : f 6 = .inl (cI, 6, .inl mp)) {mr : Nat → Int32} (h7 : f 7 = .inl (cZ, 6, .inl mr)) {jp p c : Nat} {gp : Nat → Int32} (hjp : jp < N) (h23 : 23 ≤ jp) (hfp : f jp = .inl (cC, c, .inl gp)) (htx : zCh tx) (hgp : zCh gp) {num cc : Nat} {lat : Value} {b : Bool} {ju : Nat} (hjv : jv < N) (hj23 : 23 ≤ jv) (hv : f jv = zver q num (.ref (q ju)) (zbi b) p jp cc lat) (hok : zoK (!b) p c sz) {num1 at1 jp1 cc1 : Nat} {com1 : Int32} {pr1 lat1 : Value} (hju : ju < N) (hju23 : 23 ≤ ju) (hu : f ju = zver q num1 pr1 com1 at1 jp1 cc1 lat1) : zC l y_B_undo b_B_undo 2 (some .int) (rmD 4 0 0) D (zty cI cC cZ cV) [.ref (q 0)] N q f (fun v N' q' f' => v = some (.int (nI num1)) ∧ N' = N ∧ q' = q ∧ f' = va_up (va_up (va_up (va_up f 2 (.inl (cC, 2000, .inl (zoT (!b) tx gp p c sz)))) 1 (zrow q 2 (zoS (!b) sz c))) 6 (.inl (cI, 6, .inl (zoM (!b) p c mp mr)))) 0 (zbo q n ins ju)) := by
  refine zC.of (by decide) (by simp [Value.category]) (Nat.le_of_ble_eq_true rfl) (fun G X Y => ?_)
  show G 0 0 0 [some (.ref (q 0)), none] [] N q f
  refine zr_aload_n X d_B_undo_0 rfl ?_
  refine zr_get X F_B_40 d_B_undo_1 (by omega) h0 (v := .ref (q jv)) rfl ?_
  refine zr_get X F_B_84 d_B_undo_4 (by omega) hv (v := .ref (q ju)) rfl ?_
  refine zr_astore_n (lv' := [some (.ref (q 0)), some (.ref (q ju))]) X d_B_undo_7 (by decide) rfl ?_
  refine zr_aload_n X d_B_undo_8 rfl ?_
  refine zr_ifnonnull (tgt := 14) X d_B_undo_9 rfl ?_
  refine zr_aload_n X d_B_undo_14 rfl ?_
  refine zr_aload_n X d_B_undo_15 rfl ?_
  refine zr_callV X K_B_87 KI_B_87 KS_B_87 (c_B_stepBackTo hN h0 h1 h2 h5 h6 h7 hjp h23 hfp htx hgp hjv hj23 hv hok) d_B_undo_16 (by omega) h0 rfl rfl (by decide) (Nat.le_of_ble_eq_true rfl) (by decide) (st := []) rfl (kW ?_)
  show G 0 0 19 [some (.ref (q 0)), some (.ref (q ju))] [] N q (va_up (va_up (va_up (va_up f 2 (.inl (cC, 2000, .inl (zoT (!b) tx gp p c sz)))) 1 (.inr (iR, [.ref (q 2), .int (nI (zoS (!b) sz c))]))) 6 (.inl (cI, 6, .inl (zoM (!b) p c mp mr)))) 0 (.inr (iB, [.ref (q 1), .ref (q 3), .ref (q 5), .ref (q 8), .ref (q 9), .int (nI n), .int (nI ins), .ref (q ju)])))
  refine zr_aload_n X d_B_undo_19 rfl ?_
  refine zr_get X F_B_40 d_B_undo_20 (by omega) up_eq (v := .ref (q ju)) rfl ?_
  refine zr_get X F_B_91 d_B_undo_23 (by omega) (up_ne (by omega) (up_ne (by omega) (up_ne (by omega) (up_ne (by omega) hu)))) (v := .int (nI num1)) rfl ?_
  refine zr_ireturn Y d_B_undo_26 rfl (Nat.le_of_ble_eq_true rfl) (Nat.le_of_ble_eq_true rfl) ?_
  exact ⟨rfl, rfl, rfl, rfl⟩

set_option maxRecDepth 100000 in
set_option maxHeartbeats 4000000 in
theorem c_B_redo_y {l : Launch} {D : va_G} {cI cC cZ cV : ClassId} {N : Nat} {q : Nat → Nat} {f : zF} (hN : 23 ≤ N) {n ins jv : Nat} (h0 : f 0 = zbo q n ins jv) {sz : Nat} (h1 : f 1 = zrow q 2 sz) {tx : Nat → Int32} (h2 : f 2 = .inl (cC, 2000, .inl tx))  (h5 : f 5 = .inr (iM, [.ref (q 6), .ref (q 7)])) {mp : Nat → Int32} (h6 : f 6 = .inl (cI, 6, .inl mp)) {mr : Nat → Int32} (h7 : f 7 = .inl (cZ, 6, .inl mr)) {jp p c : Nat} {gp : Nat → Int32} (hjp : jp < N) (h23 : 23 ≤ jp) (hfp : f jp = .inl (cC, c, .inl gp)) (htx : zCh tx) (hgp : zCh gp) {num cc : Nat} {pr : Value} {com : Int32} {at_ jp9 ju : Nat} (hjv : jv < N) (hj23 : 23 ≤ jv) (hv : f jv = zver q num pr com at_ jp9 cc (.ref (q ju))) {num1 cc1 : Nat} {b : Bool} {pr1 lat1 : Value} (hju : ju < N) (hju23 : 23 ≤ ju) (hu : f ju = zver q num1 pr1 (zbi b) p jp cc1 lat1) (hok : zoK b p c sz) : zC l y_B_redo b_B_redo 2 (some .int) (rmD 4 0 0) D (zty cI cC cZ cV) [.ref (q 0)] N q f (fun v N' q' f' => v = some (.int (nI num1)) ∧ N' = N ∧ q' = q ∧ f' = va_up (va_up (va_up (va_up f 2 (.inl (cC, 2000, .inl (zoT b tx gp p c sz)))) 1 (zrow q 2 (zoS b sz c))) 6 (.inl (cI, 6, .inl (zoM b p c mp mr)))) 0 (zbo q n ins ju)) := by
  refine zC.of (by decide) (by simp [Value.category]) (Nat.le_of_ble_eq_true rfl) (fun G X Y => ?_)
  show G 0 0 0 [some (.ref (q 0)), none] [] N q f
  refine zr_aload_n X d_B_redo_0 rfl ?_
  refine zr_get X F_B_40 d_B_redo_1 (by omega) h0 (v := .ref (q jv)) rfl ?_
  refine zr_get X F_B_94 d_B_redo_4 (by omega) hv (v := .ref (q ju)) rfl ?_
  refine zr_astore_n (lv' := [some (.ref (q 0)), some (.ref (q ju))]) X d_B_redo_7 (by decide) rfl ?_
  refine zr_aload_n X d_B_redo_8 rfl ?_
  refine zr_ifnonnull (tgt := 14) X d_B_redo_9 rfl ?_
  refine zr_aload_n X d_B_redo_14 rfl ?_
  refine zr_aload_n X d_B_redo_15 rfl ?_
  refine zr_callV X K_B_97 KI_B_97 KS_B_97 (c_B_stepOnTo hN h0 h1 h2 h5 h6 h7 hjp h23 hfp htx hgp hju hju23 hu hok) d_B_redo_16 (by omega) h0 rfl rfl (by decide) (Nat.le_of_ble_eq_true rfl) (by decide) (st := []) rfl (kW ?_)
  show G 0 0 19 [some (.ref (q 0)), some (.ref (q ju))] [] N q (va_up (va_up (va_up (va_up f 2 (.inl (cC, 2000, .inl (zoT b tx gp p c sz)))) 1 (.inr (iR, [.ref (q 2), .int (nI (zoS b sz c))]))) 6 (.inl (cI, 6, .inl (zoM b p c mp mr)))) 0 (.inr (iB, [.ref (q 1), .ref (q 3), .ref (q 5), .ref (q 8), .ref (q 9), .int (nI n), .int (nI ins), .ref (q ju)])))
  refine zr_aload_n X d_B_redo_19 rfl ?_
  refine zr_get X F_B_40 d_B_redo_20 (by omega) up_eq (v := .ref (q ju)) rfl ?_
  refine zr_get X F_B_91 d_B_redo_23 (by omega) (up_ne (by omega) (up_ne (by omega) (up_ne (by omega) (up_ne (by omega) hu)))) (v := .int (nI num1)) rfl ?_
  refine zr_ireturn Y d_B_redo_26 rfl (Nat.le_of_ble_eq_true rfl) (Nat.le_of_ble_eq_true rfl) ?_
  exact ⟨rfl, rfl, rfl, rfl⟩
