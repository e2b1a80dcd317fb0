set_option maxRecDepth 100000 in
set_option maxHeartbeats 4000000 in
theorem c_O_goTo_n {l : Launch} {D : va_G} {cI cC cZ cV : ClassId} {N : Nat} {q : Nat → Nat} {f : zF} (hN : 23 ≤ N) {n po th sz ty : Nat} (h10 : f 10 = zmo q n po th sz ty) {x : Int32} (hx : zNa x n) : zC l y_O_goTo b_O_goTo 4 (some .int) (rmD 2 0 0) D (zty cI cC cZ cV) [.ref (q 10), .int x] N q f (pRd N q f (-1)) := by
  refine zC.of (by decide) (by simp [Value.category]) (Nat.le_of_ble_eq_true rfl) (fun G X Y => ?_)
  show G 0 0 0 [some (.ref (q 10)), some (.int x), none, none] [] N q f
  refine zr_iload_n X d_O_goTo_0 rfl ?_
  refine zr_if_lt (tgt := 12) X d_O_goTo_1 rfl (fun h1 => ?_) (fun h1 => ?_)
  · skip
    refine zr_iconst (v := (-1)) X d_O_goTo_12 (by decide) ?_
    refine zr_ireturn Y d_O_goTo_13 rfl (Nat.le_of_ble_eq_true rfl) (Nat.le_of_ble_eq_true rfl) ?_
    exact ⟨rfl, rfl, rfl, rfl⟩
  · skip
    refine zr_iload_n X d_O_goTo_4 rfl ?_
    refine zr_aload_n X d_O_goTo_5 rfl ?_
    refine zr_get X F_O_7 d_O_goTo_6 (by omega) h10 (v := .int (nI n)) rfl ?_
    refine zr_icmp_ltf (tgt := 14) X d_O_goTo_9 rfl (z_not_lt (hx.resolve_left h1)) ?_
    refine zr_iconst (v := (-1)) X d_O_goTo_12 (by decide) ?_
    refine zr_ireturn Y d_O_goTo_13 rfl (Nat.le_of_ble_eq_true rfl) (Nat.le_of_ble_eq_true rfl) ?_
    exact ⟨rfl, rfl, rfl, rfl⟩

set_option maxRecDepth 100000 in
set_option maxHeartbeats 4000000 in
theorem c_O_goTo_y {l : Launch} {D : va_G} {cI cC cZ cV : ClassId} {N : Nat} {q : Nat → Nat} {f : zF} (hN : 23 ≤ N) {n po th sz ty : Nat} (h10 : f 10 = zmo q n po th sz ty) {pa : Nat → Int32} (h11 : f 11 = .inl (cI, 122, .inl pa)) {co : Nat → Int32} (h12 : f 12 = .inl (cZ, 122, .inl co)) {pl : Nat → Int32} (h13 : f 13 = .inl (cI, 122, .inl pl)) {mn : Nat → Int32} (h14 : f 14 = .inl (cI, 122, .inl mn)) {fi : Nat → Int32} (h15 : f 15 = .inl (cI, 122, .inl fi)) {pool : Nat → Int32} (h16 : f 16 = .inl (cC, 2000, .inl pool)) {tx : Nat → Int32} (h17 : f 17 = .inl (cC, 2000, .inl tx)) {way : Nat → Int32} (h18 : f 18 = .inl (cI, 122, .inl way)) {ma : Nat → Int32} (h21 : f 21 = .inl (cI, 6, .inl ma)) {mr : Nat → Int32} (h22 : f 22 = .inl (cZ, 6, .inl mr)) (htx : zCh tx) (hpool : zCh pool) {par : Nat → Nat} {com : Nat → Bool} {tp tc : Nat → Nat} {tq : Nat → Nat → Int32} {tz : Nat → Nat} {tt : Nat → Nat → Int32} (T : zTree n par com tp tc tq tz tt) (M : zMT n par com tp tc tq pa co pl mn fi pool) (hth : th < n) (hn : n ≤ 122) {b kb ko : Nat} (hp0 : par 0 = 0) (hb : b < n) (w : zWay par th b kb ko) : zC l y_O_goTo b_O_goTo 4 (some .int) (rmD 2 0 0) D (zty cI cC cZ cV) [.ref (q 10), .int (nI b)] N q f (fun v N' q' f' => v = some (.int (nI (kb + ko))) ∧ N' = N ∧ q' = q ∧ zMade cC cI q n po b ty tz tt (zons par com tp tc b ko mr (zbks par com tp tc th mr ma kb) ko) f f') := by
  refine zC.of (by decide) (by simp [Value.category]) (Nat.le_of_ble_eq_true rfl) (fun G X Y => ?_)
  show G 0 0 0 [some (.ref (q 10)), some (.int (nI b)), none, none] [] N q f
  have hp := fun v h0 h => T.lt (v := v) h0 h
  have hkb := w.kb hp hp0 hth hb
  have hko := w.ko hp hp0 hb
  have hpa := fun v h0 h => (M v h0 h).1
  have loopB : ∀ (J : Nat) (F : zF) (mx : Nat → Int32) (o : Option Value), J ≤ ko → F 10 = zmo q n po (zit par b J) sz ty → F 21 = .inl (cI, 6, .inl mx) → mx = zons par com tp tc b ko mr (zbks par com tp tc th mr ma kb) (ko - J) → (∀ jj, jj ≠ 10 → jj ≠ 21 → F jj = f jj) → G 0 0 38 [some (.ref (q 10)), some (.int (nI b)), some (.int (nI (kb + (ko - J)))), o] [] N q F := by
    intro J
    induction J with
    | zero =>
      intro F mx o hJ hF10 hF21 hmx hF
      show G 0 0 38 [some (.ref (q 10)), some (.int (nI b)), some (.int (nI (kb + (ko - 0)))), o] [] N q F
      refine zr_aload_n X d_O_goTo_38 rfl ?_
      refine zr_get X F_O_62 d_O_goTo_39 (by omega) hF10 (v := .int (nI (zit par b 0))) rfl ?_
      refine zr_iload_n X d_O_goTo_42 rfl ?_
      refine zr_icmp_eqt (tgt := 63) X d_O_goTo_43 rfl rfl ?_
      refine zr_aload_n X d_O_goTo_63 rfl ?_
      refine zr_callV X K_O_76 KI_O_76 KS_O_76 (c_O_make hN hF10 ((hF 11 (by decide) (by decide)).trans h11) ((hF 12 (by decide) (by decide)).trans h12) ((hF 13 (by decide) (by decide)).trans h13) ((hF 14 (by decide) (by decide)).trans h14) ((hF 15 (by decide) (by decide)).trans h15) ((hF 16 (by decide) (by decide)).trans h16) ((hF 17 (by decide) (by decide)).trans h17) ((hF 18 (by decide) (by decide)).trans h18) htx hpool T M hb hn) d_O_goTo_64 (by omega) hF10 rfl rfl (by decide) (Nat.le_of_ble_eq_true rfl) (by decide) (st := []) rfl (kV fun f1 hm1 => ?_)
      obtain ⟨g1, w1, m1, m2, m3, m4, m5, m6⟩ := hm1
      show G 0 0 67 [some (.ref (q 10)), some (.int (nI b)), some (.int (nI (kb + (ko - 0)))), o] [] N q f1
      refine zr_iload_n X d_O_goTo_67 rfl ?_
      refine zr_ireturn Y d_O_goTo_68 rfl (Nat.le_of_ble_eq_true rfl) (Nat.le_of_ble_eq_true rfl) ?_
      exact ⟨by rw [Nat.sub_zero], rfl, rfl, ⟨g1, w1, m1, m2, m3, m4, m5⟩, (m6 21 (by decide) (by decide) (by decide)).trans (hF21.trans (by rw [hmx, Nat.sub_zero])), fun jj k1 k2 k3 k4 => (m6 jj k1 k2 k3).trans (hF jj k1 k4)⟩
    | succ J ih =>
      intro F mx o hJ hF10 hF21 hmx hF
      have hz : zons par com tp tc b ko mr (zbks par com tp tc th mr ma kb) (ko - J) = zoM (com (zit par b J)) (tp (zit par b J)) (tc (zit par b J)) (zons par com tp tc b ko mr (zbks par com tp tc th mr ma kb) (ko - (J + 1))) mr := by
        rw [show ko - J = (ko - (J + 1)) + 1 by omega]
        show zoM (com (zit par b (ko - (ko - (J + 1) + 1)))) _ _ _ _ = _
        rw [show ko - (ko - (J + 1) + 1) = J by omega]
      rw [← hmx] at hz
      have hJ0 := w.on hp0 (show J < ko by omega)
      have hJn := zit_lt hp hp0 hb J
      have hJn1 := zit_lt hp hp0 hb (J + 1)
      have hdn : zit par b (J + 1) < zit par b J := hp _ hJ0 hJn
      have hdb := zit_mono hp hp0 hb (Nat.zero_le J)
      have hdb : zit par b J ≤ b := hdb
      obtain ⟨M1, M2, M3, M4, -⟩ := M _ hJ0 hJn
      show G 0 0 38 [some (.ref (q 10)), some (.int (nI b)), some (.int (nI (kb + (ko - (J + 1))))), o] [] N q F
      refine zr_aload_n X d_O_goTo_38 rfl ?_
      refine zr_get X F_O_62 d_O_goTo_39 (by omega) hF10 (v := .int (nI (zit par b ((J + 1))))) rfl ?_
      refine zr_iload_n X d_O_goTo_42 rfl ?_
      refine zr_icmp_eqf (tgt := 63) X d_O_goTo_43 rfl (fun h9 => absurd ((nI_eq (by omega) (by omega)).mp h9) (by omega)) ?_
      refine zr_aload_n X d_O_goTo_46 rfl ?_
      refine zr_iload_n X d_O_goTo_47 rfl ?_
      refine zr_callV X K_O_99 KI_O_99 KS_O_99 (c_O_next hN hF10 ((hF 11 (by decide) (by decide)).trans h11) hp hp0 hpa hn hb rfl (fun k hk => by have := zit_mono hp hp0 hb hk; omega)) d_O_goTo_48 (by omega) hF10 rfl rfl (by decide) (Nat.le_of_ble_eq_true rfl) (by decide) (st := []) rfl (kRd ?_)
      show G 0 0 51 [some (.ref (q 10)), some (.int (nI b)), some (.int (nI (kb + (ko - (J + 1))))), o] [.int (nI (zit par b J))] N q F
      refine zr_istore_n (lv' := [some (.ref (q 10)), some (.int (nI b)), some (.int (nI (kb + (ko - (J + 1))))), some (.int (nI (zit par b J)))]) X d_O_goTo_51 (by decide) rfl ?_
      refine zr_aload_n X d_O_goTo_52 rfl ?_
      refine zr_iload_n X d_O_goTo_53 rfl ?_
      refine zr_callV X K_O_93 KI_O_93 KS_O_93 (c_O_stepOn hN hF10 ((hF 12 (by decide) (by decide)).trans h12) ((hF 13 (by decide) (by decide)).trans h13) ((hF 14 (by decide) (by decide)).trans h14) hF21 ((hF 22 (by decide) (by decide)).trans h22) (by omega) M3 M4 M2) d_O_goTo_54 (by omega) hF10 rfl rfl (by decide) (Nat.le_of_ble_eq_true rfl) (by decide) (st := []) rfl (kW ?_)
      show G 0 0 57 [some (.ref (q 10)), some (.int (nI b)), some (.int (nI (kb + (ko - (J + 1))))), some (.int (nI (zit par b J)))] [] N q (va_up (va_up F 21 (.inl (cI, 6, .inl (zoM (com (zit par b J)) (tp (zit par b J)) (tc (zit par b J)) mx mr)))) 10 (.inr (iO, [.int (nI n), .ref (q 11), .ref (q 12), .ref (q 13), .ref (q 14), .ref (q 15), .int (nI po), .ref (q 16), .int (nI (zit par b J)), .int (nI sz), .ref (q 17), .ref (q 18), .int (nI ty), .ref (q 19), .ref (q 20), .ref (q 21), .ref (q 22)])))
      refine zr_iinc (v := nI (kb + (ko - J))) (lv' := [some (.ref (q 10)), some (.int (nI b)), some (.int (nI (kb + (ko - J)))), some (.int (nI (zit par b J)))]) X d_O_goTo_57 rfl ((nI_1 _).trans (by rw [show kb + (ko - (J + 1)) + 1 = kb + (ko - J) by omega])) (by decide) rfl ?_
      refine zr_goto (tgt := 38) X d_O_goTo_60 rfl ?_
      exact ih _ _ _ (by omega) up_eq (up_ne (by decide) up_eq) hz.symm (fun jj k1 k2 => up_ne k1 (up_ne k2 (hF jj k1 k2)))
  have loopA : ∀ (d i : Nat) (F : zF) (mx : Nat → Int32) (o : Option Value), i + d = kb → F 10 = zmo q n po (zit par th i) sz ty → F 21 = .inl (cI, 6, .inl mx) → mx = zbks par com tp tc th mr ma i → (∀ jj, jj ≠ 10 → jj ≠ 21 → F jj = f jj) → G 0 0 16 [some (.ref (q 10)), some (.int (nI b)), some (.int (nI i)), o] [] N q F := by
    intro d
    induction d with
    | zero =>
      intro i F mx o hi hF10 hF21 hmx hF
      have hin := zit_lt hp hp0 hth i
      have hik : i = kb := by omega
      subst hik
      show G 0 0 16 [some (.ref (q 10)), some (.int (nI b)), some (.int (nI i)), o] [] N q F
      refine zr_aload_n X d_O_goTo_16 rfl ?_
      refine zr_aload_n X d_O_goTo_17 rfl ?_
      refine zr_get X F_O_62 d_O_goTo_18 (by omega) hF10 (v := .int (nI (zit par th i))) rfl ?_
      refine zr_iload_n X d_O_goTo_21 rfl ?_
      refine zr_callV X K_O_96 KI_O_96 KS_O_96 (c_O_leads hN hF10 ((hF 11 (by decide) (by decide)).trans h11) hp hp0 hpa hn hin hb) d_O_goTo_22 (by omega) hF10 rfl rfl (by decide) (Nat.le_of_ble_eq_true rfl) (by decide) (st := []) rfl (kI fun r1 F1 hr1 => ?_)
      obtain ⟨e1, h8⟩ := hr1
      rw [e1]
      show G 0 0 25 [some (.ref (q 10)), some (.int (nI b)), some (.int (nI i)), o] [.int r1] N q F
      rcases h8 with ⟨rfl, k9, h8⟩ | ⟨rfl, h8⟩
      · skip
        show G 0 0 25 [some (.ref (q 10)), some (.int (nI b)), some (.int (nI i)), o] [.int (nI 1)] N q F
        refine zr_if_net (tgt := 38) X d_O_goTo_25 rfl (by decide) ?_
        have h9 := loopB ko F mx o (Nat.le_refl _) (by rw [← w.1]; exact hF10) hF21 (by rw [hmx, Nat.sub_self]; rfl) hF
        rw [Nat.sub_self] at h9
        exact h9
      · skip
        exact absurd w.1.symm (h8 ko)
    | succ d ih =>
      intro i F mx o hi hF10 hF21 hmx hF
      have hin := zit_lt hp hp0 hth i
      have hi0 := w.back hp hp0 hth hb (show i < kb by omega)
      obtain ⟨M1, M2, M3, M4, -⟩ := M _ hi0 hin
      show G 0 0 16 [some (.ref (q 10)), some (.int (nI b)), some (.int (nI i)), o] [] N q F
      refine zr_aload_n X d_O_goTo_16 rfl ?_
      refine zr_aload_n X d_O_goTo_17 rfl ?_
      refine zr_get X F_O_62 d_O_goTo_18 (by omega) hF10 (v := .int (nI (zit par th i))) rfl ?_
      refine zr_iload_n X d_O_goTo_21 rfl ?_
      refine zr_callV X K_O_96 KI_O_96 KS_O_96 (c_O_leads hN hF10 ((hF 11 (by decide) (by decide)).trans h11) hp hp0 hpa hn hin hb) d_O_goTo_22 (by omega) hF10 rfl rfl (by decide) (Nat.le_of_ble_eq_true rfl) (by decide) (st := []) rfl (kI fun r1 F1 hr1 => ?_)
      obtain ⟨e1, h8⟩ := hr1
      rw [e1]
      show G 0 0 25 [some (.ref (q 10)), some (.int (nI b)), some (.int (nI i)), o] [.int r1] N q F
      rcases h8 with ⟨rfl, k9, h8⟩ | ⟨rfl, h8⟩
      · skip
        exact absurd h8 (w.2.1 i (by omega) k9)
      · skip
        show G 0 0 25 [some (.ref (q 10)), some (.int (nI b)), some (.int (nI i)), o] [.int (nI 0)] N q F
        refine zr_if_nef (tgt := 38) X d_O_goTo_25 rfl (by decide) ?_
        refine zr_aload_n X d_O_goTo_28 rfl ?_
        refine zr_callV X K_O_90 KI_O_90 KS_O_90 (c_O_stepBack hN hF10 ((hF 11 (by decide) (by decide)).trans h11) ((hF 12 (by decide) (by decide)).trans h12) ((hF 13 (by decide) (by decide)).trans h13) ((hF 14 (by decide) (by decide)).trans h14) hF21 ((hF 22 (by decide) (by decide)).trans h22) (by omega) M1 M3 M4 M2) d_O_goTo_29 (by omega) hF10 rfl rfl (by decide) (Nat.le_of_ble_eq_true rfl) (by decide) (st := []) rfl (kW ?_)
        show G 0 0 32 [some (.ref (q 10)), some (.int (nI b)), some (.int (nI i)), o] [] N q (va_up (va_up F 21 (.inl (cI, 6, .inl (zoM (!(com (zit par th i))) (tp (zit par th i)) (tc (zit par th i)) mx mr)))) 10 (.inr (iO, [.int (nI n), .ref (q 11), .ref (q 12), .ref (q 13), .ref (q 14), .ref (q 15), .int (nI po), .ref (q 16), .int (nI (par (zit par th i))), .int (nI sz), .ref (q 17), .ref (q 18), .int (nI ty), .ref (q 19), .ref (q 20), .ref (q 21), .ref (q 22)])))
        refine zr_iinc (v := nI (i + 1)) (lv' := [some (.ref (q 10)), some (.int (nI b)), some (.int (nI (i + 1))), o]) X d_O_goTo_32 rfl (nI_1 _) (by decide) rfl ?_
        refine zr_goto (tgt := 16) X d_O_goTo_35 rfl ?_
        exact ih (i + 1) _ _ _ (by omega) up_eq (up_ne (by decide) up_eq) (by rw [hmx]; rfl) (fun jj k1 k2 => up_ne k1 (up_ne k2 (hF jj k1 k2)))
  refine zr_iload_n X d_O_goTo_0 rfl ?_
  refine zr_if_ltf (tgt := 12) X d_O_goTo_1 rfl (nI_pos (by omega)) ?_
  refine zr_iload_n X d_O_goTo_4 rfl ?_
  refine zr_aload_n X d_O_goTo_5 rfl ?_
  refine zr_get X F_O_7 d_O_goTo_6 (by omega) h10 (v := .int (nI n)) rfl ?_
  refine zr_icmp_ltt (tgt := 14) X d_O_goTo_9 rfl (nI_lt hb (by omega)) ?_
  refine zr_iconst (v := nI 0) X d_O_goTo_14 (by decide) ?_
  refine zr_istore_n (lv' := [some (.ref (q 10)), some (.int (nI b)), some (.int (nI 0)), none]) X d_O_goTo_15 (by decide) rfl ?_
  exact loopA kb 0 f ma none (by omega) h10 h21 rfl (fun _ _ _ => rfl)

theorem zbi_v {b : Bool} : vp_nar .boolean (zbi b) = zbi b := by cases b <;> rfl
theorem zMT.add {n : Nat} {par : Nat → Nat} {com : Nat → Bool} {tp tc : Nat → Nat} {tq : Nat → Nat → Int32} {pa co pl mn fi pool : Nat → Int32} (M : zMT n par com tp tc tq pa co pl mn fi pool) (hf : com n = true → ∃ a, fi n = nI a ∧ a + tc n ≤ 2000 ∧ ∀ i, i < tc n → pool (a + i) = tq n i) : zMT (n + 1) par com tp tc tq (upd pa n (nI (par n))) (upd co n (zbi (com n))) (upd pl n (nI (tp n))) (upd mn n (nI (tc n))) fi pool := by
  intro v h0 hv
  by_cases h : v = n
  · subst h
    exact ⟨pk_us, pk_us, pk_us, pk_us, hf⟩
  · obtain ⟨h1, h2, h3, h4, h5⟩ := M v h0 (by omega)
    exact ⟨(pk_un h).trans h1, (pk_un h).trans h2, (pk_un h).trans h3, (pk_un h).trans h4, h5⟩
/-- the store behind an edit that made version n -/
def zEd (cC cI cZ : ClassId) (q : Nat → Nat) (n po th ty : Nat) (b : Bool) (p c : Nat) (tz : Nat → Nat) (tt : Nat → Nat → Int32) (pa co pl mn ma : Nat → Int32) (f f' : zF) : Prop := (∃ g w, f' 10 = zmo q (n + 1) po n (tz n) ty ∧ f' 17 = .inl (cC, 2000, .inl g) ∧ f' 18 = .inl (cI, 122, .inl w) ∧ zCh g ∧ ∀ j, j < tz n → g j = tt n j) ∧ f' 21 = .inl (cI, 6, .inl ma) ∧ f' 11 = .inl (cI, 122, .inl (upd pa n (nI th))) ∧ f' 12 = .inl (cZ, 122, .inl (upd co n (zbi b))) ∧ f' 13 = .inl (cI, 122, .inl (upd pl n (nI p))) ∧ f' 14 = .inl (cI, 122, .inl (upd mn n (nI c))) ∧ ∀ jj, jj ≠ 10 → jj ≠ 17 → jj ≠ 18 → jj ≠ 21 → jj ≠ 11 → jj ≠ 12 → jj ≠ 13 → jj ≠ 14 → f' jj = f jj
theorem cpy_upS {f g : Nat → Int32} {dp k : Nat} : upd (va_cpy f g 0 dp k) (dp + k) (f k) = va_cpy f g 0 dp (k + 1) := by
  have h := cpy_up (f := f) (g := g) (sp := 0) (dp := dp) (k := k)
  rwa [Nat.zero_add] at h

set_option maxRecDepth 100000 in
set_option maxHeartbeats 4000000 in
theorem c_O_edit {l : Launch} {D : va_G} {cI cC cZ cV : ClassId} {N : Nat} {q : Nat → Nat} {f : zF} (hN : 23 ≤ N) {n po th sz ty : Nat} (h10 : f 10 = zmo q n po th sz ty) {pa : Nat → Int32} (h11 : f 11 = .inl (cI, 122, .inl pa)) {co : Nat → Int32} (h12 : f 12 = .inl (cZ, 122, .inl co)) {pl : Nat → Int32} (h13 : f 13 = .inl (cI, 122, .inl pl)) {mn : Nat → Int32} (h14 : f 14 = .inl (cI, 122, .inl mn)) {fi : Nat → Int32} (h15 : f 15 = .inl (cI, 122, .inl fi)) {pool : Nat → Int32} (h16 : f 16 = .inl (cC, 2000, .inl pool)) {tx : Nat → Int32} (h17 : f 17 = .inl (cC, 2000, .inl tx)) {way : Nat → Int32} (h18 : f 18 = .inl (cI, 122, .inl way)) {ma : Nat → Int32} (h21 : f 21 = .inl (cI, 6, .inl ma)) {mr : Nat → Int32} (h22 : f 22 = .inl (cZ, 6, .inl mr)) (htx : zCh tx) (hpool : zCh pool) {par : Nat → Nat} {com : Nat → Bool} {tp tc : Nat → Nat} {tq : Nat → Nat → Int32} {tz : Nat → Nat} {tt : Nat → Nat → Int32} (T : zTree (n + 1) par com tp tc tq tz tt) (M : zMT n par com tp tc tq pa co pl mn fi pool) (hn : n < 122) {b : Bool} {p c : Nat} (e1 : par n = th) (e2 : com n = b) (e3 : tp n = p) (e4 : tc n = c) (hf : com n = true → ∃ a, fi n = nI a ∧ a + tc n ≤ 2000 ∧ ∀ i, i < tc n → pool (a + i) = tq n i) : zC l y_O_edit b_O_edit 5 (some .int) (rmD 2 0 0) D (zty cI cC cZ cV) [.ref (q 10), .int (zbi b), .int (nI p), .int (nI c)] N q f (fun v N' q' f' => v = some (.int (nI n)) ∧ N' = N ∧ q' = q ∧ zEd cC cI cZ q n po th ty b p c tz tt pa co pl mn (zoM b p c ma mr) f f') := by
  refine zC.of (by decide) (by simp [Value.category]) (Nat.le_of_ble_eq_true rfl) (fun G X Y => ?_)
  show G 0 0 0 [some (.ref (q 10)), some (.int (zbi b)), some (.int (nI p)), some (.int (nI c)), none] [] N q f
  refine zr_aload_n X d_O_edit_0 rfl ?_
  refine zr_get X F_O_7 d_O_edit_1 (by omega) h10 (v := .int (nI n)) rfl ?_
  refine zr_istore (lv' := [some (.ref (q 10)), some (.int (zbi b)), some (.int (nI p)), some (.int (nI c)), some (.int (nI n))]) X d_O_edit_4 (by decide) rfl ?_
  refine zr_aload_n X d_O_edit_6 rfl ?_
  refine zr_dup X d_O_edit_7 rfl ?_
  refine zr_get X F_O_7 d_O_edit_8 (by omega) h10 (v := .int (nI n)) rfl ?_
  refine zr_iconst (v := nI 1) X d_O_edit_11 (by decide) ?_
  refine zr_iadd (z := nI (n + 1)) X d_O_edit_12 (nI_add _ _) ?_
  refine zr_put (fs' := [.int (nI (n + 1)), .ref (q 11), .ref (q 12), .ref (q 13), .ref (q 14), .ref (q 15), .int (nI po), .ref (q 16), .int (nI th), .int (nI sz), .ref (q 17), .ref (q 18), .int (nI ty), .ref (q 19), .ref (q 20), .ref (q 21), .ref (q 22)]) X F_O_7 d_O_edit_13 (by omega) h10 rfl rfl (Nat.le_of_ble_eq_true rfl) rfl ?_
  refine zr_aload_n X d_O_edit_16 rfl ?_
  refine zr_get X F_O_13 d_O_edit_17 (by omega) up_eq (v := .ref (q 11)) rfl ?_
  refine zr_iload X d_O_edit_20 rfl ?_
  refine zr_aload_n X d_O_edit_22 rfl ?_
  refine zr_get X F_O_62 d_O_edit_23 (by omega) up_eq (v := .int (nI th)) rfl ?_
  refine zr_iastore X 0 d_O_edit_26 (by omega) (up_ne (by decide) h11) rfl (by omega) (by decide) ?_
  refine zr_aload_n X d_O_edit_27 rfl ?_
  refine zr_get X F_O_17 d_O_edit_28 (by omega) (up_ne (by decide) up_eq) (v := .ref (q 12)) rfl ?_
  refine zr_iload X d_O_edit_31 rfl ?_
  refine zr_iload_n X d_O_edit_33 rfl ?_
  refine zr_bastore X 2 d_O_edit_34 (by omega) (up_ne (by decide) (up_ne (by decide) h12)) rfl (by omega) (by decide) zbi_v ?_
  refine zr_aload_n X d_O_edit_35 rfl ?_
  refine zr_get X F_O_21 d_O_edit_36 (by omega) (up_ne (by decide) (up_ne (by decide) up_eq)) (v := .ref (q 13)) rfl ?_
  refine zr_iload X d_O_edit_39 rfl ?_
  refine zr_iload_n X d_O_edit_41 rfl ?_
  refine zr_iastore X 0 d_O_edit_42 (by omega) (up_ne (by decide) (up_ne (by decide) (up_ne (by decide) h13))) rfl (by omega) (by decide) ?_
  refine zr_aload_n X d_O_edit_43 rfl ?_
  refine zr_get X F_O_24 d_O_edit_44 (by omega) (up_ne (by decide) (up_ne (by decide) (up_ne (by decide) up_eq))) (v := .ref (q 14)) rfl ?_
  refine zr_iload X d_O_edit_47 rfl ?_
  refine zr_iload_n X d_O_edit_49 rfl ?_
  refine zr_iastore X 0 d_O_edit_50 (by omega) (up_ne (by decide) (up_ne (by decide) (up_ne (by decide) (up_ne (by decide) h14)))) rfl (by omega) (by decide) ?_
  refine zr_aload_n X d_O_edit_51 rfl ?_
  refine zr_iload_n X d_O_edit_52 rfl ?_
  refine zr_iload_n X d_O_edit_53 rfl ?_
  refine zr_iload_n X d_O_edit_54 rfl ?_
  refine zr_callV X K_O_72 KI_O_72 KS_O_72 (c_O_moveMarks hN (up_ne (by decide) (up_ne (by decide) (up_ne (by decide) (up_ne (by decide) up_eq)))) (up_ne (by decide) (up_ne (by decide) (up_ne (by decide) (up_ne (by decide) (up_ne (by decide) h21))))) (up_ne (by decide) (up_ne (by decide) (up_ne (by decide) (up_ne (by decide) (up_ne (by decide) h22)))))) d_O_edit_55 (by omega) (up_ne (by decide) (up_ne (by decide) (up_ne (by decide) (up_ne (by decide) up_eq)))) rfl rfl (by decide) (Nat.le_of_ble_eq_true rfl) (by decide) (st := []) rfl (kW ?_)
  show G 0 0 58 [some (.ref (q 10)), some (.int (zbi b)), some (.int (nI p)), some (.int (nI c)), some (.int (nI n))] [] N q (va_up (va_up (va_up (va_up (va_up (va_up f 10 (.inr (iO, [.int (nI (n + 1)), .ref (q 11), .ref (q 12), .ref (q 13), .ref (q 14), .ref (q 15), .int (nI po), .ref (q 16), .int (nI th), .int (nI sz), .ref (q 17), .ref (q 18), .int (nI ty), .ref (q 19), .ref (q 20), .ref (q 21), .ref (q 22)]))) 11 (.inl (cI, 122, .inl (upd pa n (nI th))))) 12 (.inl (cZ, 122, .inl (upd co n (zbi b))))) 13 (.inl (cI, 122, .inl (upd pl n (nI p))))) 14 (.inl (cI, 122, .inl (upd mn n (nI c))))) 21 (.inl (cI, 6, .inl (zoM b p c ma mr))))
  refine zr_aload_n X d_O_edit_58 rfl ?_
  refine zr_iload X d_O_edit_59 rfl ?_
  refine zr_put (fs' := [.int (nI (n + 1)), .ref (q 11), .ref (q 12), .ref (q 13), .ref (q 14), .ref (q 15), .int (nI po), .ref (q 16), .int (nI n), .int (nI sz), .ref (q 17), .ref (q 18), .int (nI ty), .ref (q 19), .ref (q 20), .ref (q 21), .ref (q 22)]) X F_O_62 d_O_edit_61 (by omega) (up_ne (by decide) (up_ne (by decide) (up_ne (by decide) (up_ne (by decide) (up_ne (by decide) up_eq))))) rfl rfl (Nat.le_of_ble_eq_true rfl) rfl ?_
  refine zr_aload_n X d_O_edit_64 rfl ?_
  refine zr_callV X K_O_76 KI_O_76 KS_O_76 (c_O_make hN up_eq (up_ne (by decide) (up_ne (by decide) (up_ne (by decide) (up_ne (by decide) (up_ne (by decide) up_eq))))) (up_ne (by decide) (up_ne (by decide) (up_ne (by decide) (up_ne (by decide) up_eq)))) (up_ne (by decide) (up_ne (by decide) (up_ne (by decide) up_eq))) (up_ne (by decide) (up_ne (by decide) up_eq)) (up_ne (by decide) (up_ne (by decide) (up_ne (by decide) (up_ne (by decide) (up_ne (by decide) (up_ne (by decide) (up_ne (by decide) h15))))))) (up_ne (by decide) (up_ne (by decide) (up_ne (by decide) (up_ne (by decide) (up_ne (by decide) (up_ne (by decide) (up_ne (by decide) h16))))))) (up_ne (by decide) (up_ne (by decide) (up_ne (by decide) (up_ne (by decide) (up_ne (by decide) (up_ne (by decide) (up_ne (by decide) h17))))))) (up_ne (by decide) (up_ne (by decide) (up_ne (by decide) (up_ne (by decide) (up_ne (by decide) (up_ne (by decide) (up_ne (by decide) h18))))))) htx hpool T (by have h9 := M.add hf; rw [e1, e2, e3, e4] at h9; exact h9) (by omega) (by omega)) d_O_edit_65 (by omega) up_eq rfl rfl (by decide) (Nat.le_of_ble_eq_true rfl) (by decide) (st := []) rfl (kV fun f1 hm1 => ?_)
  obtain ⟨g1, w1, m1, m2, m3, m4, m5, m6⟩ := hm1
  show G 0 0 68 [some (.ref (q 10)), some (.int (zbi b)), some (.int (nI p)), some (.int (nI c)), some (.int (nI n))] [] N q f1
  refine zr_iload X d_O_edit_68 rfl ?_
  refine zr_ireturn Y d_O_edit_70 rfl (Nat.le_of_ble_eq_true rfl) (Nat.le_of_ble_eq_true rfl) ?_
  exact ⟨rfl, rfl, rfl, ⟨g1, w1, m1, m2, m3, m4, m5⟩, (m6 21 (by decide) (by decide) (by decide)).trans (up_ne (by decide) up_eq), (m6 11 (by decide) (by decide) (by decide)).trans (up_ne (by decide) (up_ne (by decide) (up_ne (by decide) (up_ne (by decide) (up_ne (by decide) up_eq))))), (m6 12 (by decide) (by decide) (by decide)).trans (up_ne (by decide) (up_ne (by decide) (up_ne (by decide) (up_ne (by decide) up_eq)))), (m6 13 (by decide) (by decide) (by decide)).trans (up_ne (by decide) (up_ne (by decide) (up_ne (by decide) up_eq))), (m6 14 (by decide) (by decide) (by decide)).trans (up_ne (by decide) (up_ne (by decide) up_eq)), fun jj k1 k2 k3 k4 k5 k6 k7 k8 => (m6 jj k1 k2 k3).trans (up_ne (by omega) (up_ne (by omega) (up_ne (by omega) (up_ne (by omega) (up_ne (by omega) (up_ne (by omega) (up_ne (by omega) rfl)))))))⟩

set_option maxRecDepth 100000 in
set_option maxHeartbeats 4000000 in
theorem c_O_insert_n {l : Launch} {D : va_G} {cI cC cZ cV : ClassId} {N : Nat} {q : Nat → Nat} {f : zF} (hN : 23 ≤ N) {n po th sz ty : Nat} (h10 : f 10 = zmo q n po th sz ty) {x : Int32} (hx : zNo x sz) : zC l y_O_insert b_O_insert 3 (some .int) (rmD 3 0 0) D (zty cI cC cZ cV) [.ref (q 10), .int x] N q f (pRd N q f (-1)) := by
  refine zC.of (by decide) (by simp [Value.category]) (Nat.le_of_ble_eq_true rfl) (fun G X Y => ?_)
  show G 0 0 0 [some (.ref (q 10)), some (.int x), none] [] N q f
  refine zr_aload_n X d_O_insert_0 rfl ?_
  refine zr_iload_n X d_O_insert_1 rfl ?_
  refine zr_callV X K_O_79 KI_O_79 KS_O_79 (c_O_isPosition_n hN h10 hx) d_O_insert_2 (by omega) h10 rfl rfl (by decide) (Nat.le_of_ble_eq_true rfl) (by decide) (st := []) rfl (kRd ?_)
  show G 0 0 5 [some (.ref (q 10)), some (.int x), none] [.int (nI 0)] N q f
  refine zr_if_nef (tgt := 10) X d_O_insert_5 rfl (by decide) ?_
  refine zr_iconst (v := (-1)) X d_O_insert_8 (by decide) ?_
  refine zr_ireturn Y d_O_insert_9 rfl (Nat.le_of_ble_eq_true rfl) (Nat.le_of_ble_eq_true rfl) ?_
  exact ⟨rfl, rfl, rfl, rfl⟩

set_option maxRecDepth 100000 in
set_option maxHeartbeats 4000000 in
theorem c_O_insert_e {l : Launch} {D : va_G} {cI cC cZ cV : ClassId} {N : Nat} {q : Nat → Nat} {f : zF} (hN : 23 ≤ N) {n po th sz ty : Nat} (h10 : f 10 = zmo q n po th sz ty) {p : Nat} (hp : p ≤ sz) (hs : sz ≤ 2000) (hk0 : ty = 0) : zC l y_O_insert b_O_insert 3 (some .int) (rmD 3 0 0) D (zty cI cC cZ cV) [.ref (q 10), .int (nI p)] N q f (pRd N q f (-2)) := by
  refine zC.of (by decide) (by simp [Value.category]) (Nat.le_of_ble_eq_true rfl) (fun G X Y => ?_)
  show G 0 0 0 [some (.ref (q 10)), some (.int (nI p)), none] [] N q f
  refine zr_aload_n X d_O_insert_0 rfl ?_
  refine zr_iload_n X d_O_insert_1 rfl ?_
  refine zr_callV X K_O_79 KI_O_79 KS_O_79 (c_O_isPosition_y hN h10 (by omega) hp) d_O_insert_2 (by omega) h10 rfl rfl (by decide) (Nat.le_of_ble_eq_true rfl) (by decide) (st := []) rfl (kRd ?_)
  show G 0 0 5 [some (.ref (q 10)), some (.int (nI p)), none] [.int (nI 1)] N q f
  refine zr_if_net (tgt := 10) X d_O_insert_5 rfl (by decide) ?_
  refine zr_aload_n X d_O_insert_10 rfl ?_
  refine zr_get X F_O_52 d_O_insert_11 (by omega) h10 (v := .int (nI ty)) rfl ?_
  refine zr_if_nef (tgt := 20) X d_O_insert_14 rfl (by rw [hk0]; rfl) ?_
  refine zr_bipush (v := (-2)) X d_O_insert_17 (by decide) ?_
  refine zr_ireturn Y d_O_insert_19 rfl (Nat.le_of_ble_eq_true rfl) (Nat.le_of_ble_eq_true rfl) ?_
  exact ⟨rfl, rfl, rfl, rfl⟩

set_option maxRecDepth 100000 in
set_option maxHeartbeats 4000000 in
theorem c_O_insert_f1 {l : Launch} {D : va_G} {cI cC cZ cV : ClassId} {N : Nat} {q : Nat → Nat} {f : zF} (hN : 23 ≤ N) {n po th sz ty : Nat} (h10 : f 10 = zmo q n po th sz ty) {p : Nat} (hp : p ≤ sz) (hs : sz ≤ 2000) (hk0 : 0 < ty) (hk : ty ≤ 40) (hn : n = 122) : zC l y_O_insert b_O_insert 3 (some .int) (rmD 3 0 0) D (zty cI cC cZ cV) [.ref (q 10), .int (nI p)] N q f (pRd N q f (-3)) := by
  refine zC.of (by decide) (by simp [Value.category]) (Nat.le_of_ble_eq_true rfl) (fun G X Y => ?_)
  show G 0 0 0 [some (.ref (q 10)), some (.int (nI p)), none] [] N q f
  refine zr_aload_n X d_O_insert_0 rfl ?_
  refine zr_iload_n X d_O_insert_1 rfl ?_
  refine zr_callV X K_O_79 KI_O_79 KS_O_79 (c_O_isPosition_y hN h10 (by omega) hp) d_O_insert_2 (by omega) h10 rfl rfl (by decide) (Nat.le_of_ble_eq_true rfl) (by decide) (st := []) rfl (kRd ?_)
  show G 0 0 5 [some (.ref (q 10)), some (.int (nI p)), none] [.int (nI 1)] N q f
  refine zr_if_net (tgt := 10) X d_O_insert_5 rfl (by decide) ?_
  refine zr_aload_n X d_O_insert_10 rfl ?_
  refine zr_get X F_O_52 d_O_insert_11 (by omega) h10 (v := .int (nI ty)) rfl ?_
  refine zr_if_net (tgt := 20) X d_O_insert_14 rfl (nI_ne0 hk0 (by omega)) ?_
  refine zr_aload_n X d_O_insert_20 rfl ?_
  refine zr_get X F_O_7 d_O_insert_21 (by omega) h10 (v := .int (nI n)) rfl ?_
  refine zr_bipush (v := nI 122) X d_O_insert_24 (by decide) ?_
  refine zr_icmp_eqt (tgt := 44) X d_O_insert_26 rfl (by rw [hn]) ?_
  refine zr_bipush (v := (-3)) X d_O_insert_44 (by decide) ?_
  refine zr_ireturn Y d_O_insert_46 rfl (Nat.le_of_ble_eq_true rfl) (Nat.le_of_ble_eq_true rfl) ?_
  exact ⟨rfl, rfl, rfl, rfl⟩

set_option maxRecDepth 100000 in
set_option maxHeartbeats 4000000 in
theorem c_O_insert_f2 {l : Launch} {D : va_G} {cI cC cZ cV : ClassId} {N : Nat} {q : Nat → Nat} {f : zF} (hN : 23 ≤ N) {n po th sz ty : Nat} (h10 : f 10 = zmo q n po th sz ty) {p : Nat} (hp : p ≤ sz) (hs : sz ≤ 2000) (hk0 : 0 < ty) (hk : ty ≤ 40) (hn : n < 122) (hi : po ≤ 2000) (hik : 2000 < po + ty) : zC l y_O_insert b_O_insert 3 (some .int) (rmD 3 0 0) D (zty cI cC cZ cV) [.ref (q 10), .int (nI p)] N q f (pRd N q f (-3)) := by
  refine zC.of (by decide) (by simp [Value.category]) (Nat.le_of_ble_eq_true rfl) (fun G X Y => ?_)
  show G 0 0 0 [some (.ref (q 10)), some (.int (nI p)), none] [] N q f
  refine zr_aload_n X d_O_insert_0 rfl ?_
  refine zr_iload_n X d_O_insert_1 rfl ?_
  refine zr_callV X K_O_79 KI_O_79 KS_O_79 (c_O_isPosition_y hN h10 (by omega) hp) d_O_insert_2 (by omega) h10 rfl rfl (by decide) (Nat.le_of_ble_eq_true rfl) (by decide) (st := []) rfl (kRd ?_)
  show G 0 0 5 [some (.ref (q 10)), some (.int (nI p)), none] [.int (nI 1)] N q f
  refine zr_if_net (tgt := 10) X d_O_insert_5 rfl (by decide) ?_
  refine zr_aload_n X d_O_insert_10 rfl ?_
  refine zr_get X F_O_52 d_O_insert_11 (by omega) h10 (v := .int (nI ty)) rfl ?_
  refine zr_if_net (tgt := 20) X d_O_insert_14 rfl (nI_ne0 hk0 (by omega)) ?_
  refine zr_aload_n X d_O_insert_20 rfl ?_
  refine zr_get X F_O_7 d_O_insert_21 (by omega) h10 (v := .int (nI n)) rfl ?_
  refine zr_bipush (v := nI 122) X d_O_insert_24 (by decide) ?_
  refine zr_icmp_eqf (tgt := 44) X d_O_insert_26 rfl (fun h9 => absurd ((nI_eq (by omega) (by decide)).mp h9) (by omega)) ?_
  refine zr_aload_n X d_O_insert_29 rfl ?_
  refine zr_get X F_O_83 d_O_insert_30 (by omega) h10 (v := .int (nI po)) rfl ?_
  refine zr_aload_n X d_O_insert_33 rfl ?_
  refine zr_get X F_O_52 d_O_insert_34 (by omega) h10 (v := .int (nI ty)) rfl ?_
  refine zr_iadd (z := nI (po + ty)) X d_O_insert_37 (nI_add _ _) ?_
  refine zr_sipush (v := nI 2000) X d_O_insert_38 (by decide) ?_
  refine zr_icmp_lef (tgt := 47) X d_O_insert_41 rfl (nI_ge hik (by omega)) ?_
  refine zr_bipush (v := (-3)) X d_O_insert_44 (by decide) ?_
  refine zr_ireturn Y d_O_insert_46 rfl (Nat.le_of_ble_eq_true rfl) (Nat.le_of_ble_eq_true rfl) ?_
  exact ⟨rfl, rfl, rfl, rfl⟩

set_option maxRecDepth 100000 in
set_option maxHeartbeats 4000000 in
theorem c_O_delete_n {l : Launch} {D : va_G} {cI cC cZ cV : ClassId} {N : Nat} {q : Nat → Nat} {f : zF} (hN : 23 ≤ N) {n po th sz ty : Nat} (h10 : f 10 = zmo q n po th sz ty) {x y : Int32} (hs : sz < 2 ^ 31) (hx : zNoS x y sz) : zC l y_O_delete b_O_delete 3 (some .int) (rmD 3 0 0) D (zty cI cC cZ cV) [.ref (q 10), .int x, .int y] N q f (pRd N q f (-1)) := by
  refine zC.of (by decide) (by simp [Value.category]) (Nat.le_of_ble_eq_true rfl) (fun G X Y => ?_)
  show G 0 0 0 [some (.ref (q 10)), some (.int x), some (.int y)] [] N q f
  refine zr_aload_n X d_O_delete_0 rfl ?_
  refine zr_iload_n X d_O_delete_1 rfl ?_
  refine zr_iload_n X d_O_delete_2 rfl ?_
  refine zr_callV X K_O_58 KI_O_58 KS_O_58 (c_O_isStretch_n hN h10 hs hx) d_O_delete_3 (by omega) h10 rfl rfl (by decide) (Nat.le_of_ble_eq_true rfl) (by decide) (st := []) rfl (kRd ?_)
  show G 0 0 6 [some (.ref (q 10)), some (.int x), some (.int y)] [.int (nI 0)] N q f
  refine zr_if_nef (tgt := 11) X d_O_delete_6 rfl (by decide) ?_
  refine zr_iconst (v := (-1)) X d_O_delete_9 (by decide) ?_
  refine zr_ireturn Y d_O_delete_10 rfl (Nat.le_of_ble_eq_true rfl) (Nat.le_of_ble_eq_true rfl) ?_
  exact ⟨rfl, rfl, rfl, rfl⟩

set_option maxRecDepth 100000 in
set_option maxHeartbeats 4000000 in
theorem c_O_delete_e {l : Launch} {D : va_G} {cI cC cZ cV : ClassId} {N : Nat} {q : Nat → Nat} {f : zF} (hN : 23 ≤ N) {n po th sz ty : Nat} (h10 : f 10 = zmo q n po th sz ty) {p c : Nat} (hp : p + c ≤ sz) (hs : sz ≤ 2000) (hc0 : c = 0) : zC l y_O_delete b_O_delete 3 (some .int) (rmD 3 0 0) D (zty cI cC cZ cV) [.ref (q 10), .int (nI p), .int (nI c)] N q f (pRd N q f (-2)) := by
  refine zC.of (by decide) (by simp [Value.category]) (Nat.le_of_ble_eq_true rfl) (fun G X Y => ?_)
  show G 0 0 0 [some (.ref (q 10)), some (.int (nI p)), some (.int (nI c))] [] N q f
  refine zr_aload_n X d_O_delete_0 rfl ?_
  refine zr_iload_n X d_O_delete_1 rfl ?_
  refine zr_iload_n X d_O_delete_2 rfl ?_
  refine zr_callV X K_O_58 KI_O_58 KS_O_58 (c_O_isStretch_y hN h10 (by omega) hp) d_O_delete_3 (by omega) h10 rfl rfl (by decide) (Nat.le_of_ble_eq_true rfl) (by decide) (st := []) rfl (kRd ?_)
  show G 0 0 6 [some (.ref (q 10)), some (.int (nI p)), some (.int (nI c))] [.int (nI 1)] N q f
  refine zr_if_net (tgt := 11) X d_O_delete_6 rfl (by decide) ?_
  refine zr_iload_n X d_O_delete_11 rfl ?_
  refine zr_if_nef (tgt := 18) X d_O_delete_12 rfl (by rw [hc0]; rfl) ?_
  refine zr_bipush (v := (-2)) X d_O_delete_15 (by decide) ?_
  refine zr_ireturn Y d_O_delete_17 rfl (Nat.le_of_ble_eq_true rfl) (Nat.le_of_ble_eq_true rfl) ?_
  exact ⟨rfl, rfl, rfl, rfl⟩

set_option maxRecDepth 100000 in
set_option maxHeartbeats 4000000 in
theorem c_O_delete_f {l : Launch} {D : va_G} {cI cC cZ cV : ClassId} {N : Nat} {q : Nat → Nat} {f : zF} (hN : 23 ≤ N) {n po th sz ty : Nat} (h10 : f 10 = zmo q n po th sz ty) {p c : Nat} (hp : p + c ≤ sz) (hs : sz ≤ 2000) (hc0 : 0 < c) (hn : n = 122) : zC l y_O_delete b_O_delete 3 (some .int) (rmD 3 0 0) D (zty cI cC cZ cV) [.ref (q 10), .int (nI p), .int (nI c)] N q f (pRd N q f (-3)) := by
  refine zC.of (by decide) (by simp [Value.category]) (Nat.le_of_ble_eq_true rfl) (fun G X Y => ?_)
  show G 0 0 0 [some (.ref (q 10)), some (.int (nI p)), some (.int (nI c))] [] N q f
  refine zr_aload_n X d_O_delete_0 rfl ?_
  refine zr_iload_n X d_O_delete_1 rfl ?_
  refine zr_iload_n X d_O_delete_2 rfl ?_
  refine zr_callV X K_O_58 KI_O_58 KS_O_58 (c_O_isStretch_y hN h10 (by omega) hp) d_O_delete_3 (by omega) h10 rfl rfl (by decide) (Nat.le_of_ble_eq_true rfl) (by decide) (st := []) rfl (kRd ?_)
  show G 0 0 6 [some (.ref (q 10)), some (.int (nI p)), some (.int (nI c))] [.int (nI 1)] N q f
  refine zr_if_net (tgt := 11) X d_O_delete_6 rfl (by decide) ?_
  refine zr_iload_n X d_O_delete_11 rfl ?_
  refine zr_if_net (tgt := 18) X d_O_delete_12 rfl (nI_ne0 hc0 (by omega)) ?_
  refine zr_aload_n X d_O_delete_18 rfl ?_
  refine zr_get X F_O_7 d_O_delete_19 (by omega) h10 (v := .int (nI n)) rfl ?_
  refine zr_bipush (v := nI 122) X d_O_delete_22 (by decide) ?_
  refine zr_icmp_nef (tgt := 32) X d_O_delete_24 rfl (by rw [hn]) ?_
  refine zr_bipush (v := (-3)) X d_O_delete_27 (by decide) ?_
  refine zr_goto (tgt := 39) X d_O_delete_29 rfl ?_
  refine zr_ireturn Y d_O_delete_39 rfl (Nat.le_of_ble_eq_true rfl) (Nat.le_of_ble_eq_true rfl) ?_
  exact ⟨rfl, rfl, rfl, rfl⟩

set_option maxRecDepth 100000 in
set_option maxHeartbeats 4000000 in
theorem c_O_delete_y {l : Launch} {D : va_G} {cI cC cZ cV : ClassId} {N : Nat} {q : Nat → Nat} {f : zF} (hN : 23 ≤ N) {n po th sz ty : Nat} (h10 : f 10 = zmo q n po th sz ty) {pa : Nat → Int32} (h11 : f 11 = .inl (cI, 122, .inl pa)) {co : Nat → Int32} (h12 : f 12 = .inl (cZ, 122, .inl co)) {pl : Nat → Int32} (h13 : f 13 = .inl (cI, 122, .inl pl)) {mn : Nat → Int32} (h14 : f 14 = .inl (cI, 122, .inl mn)) {fi : Nat → Int32} (h15 : f 15 = .inl (cI, 122, .inl fi)) {pool : Nat → Int32} (h16 : f 16 = .inl (cC, 2000, .inl pool)) {tx : Nat → Int32} (h17 : f 17 = .inl (cC, 2000, .inl tx)) {way : Nat → Int32} (h18 : f 18 = .inl (cI, 122, .inl way)) {ma : Nat → Int32} (h21 : f 21 = .inl (cI, 6, .inl ma)) {mr : Nat → Int32} (h22 : f 22 = .inl (cZ, 6, .inl mr)) (htx : zCh tx) (hpool : zCh pool) {par : Nat → Nat} {com : Nat → Bool} {tp tc : Nat → Nat} {tq : Nat → Nat → Int32} {tz : Nat → Nat} {tt : Nat → Nat → Int32} (T : zTree (n + 1) par com tp tc tq tz tt) (M : zMT n par com tp tc tq pa co pl mn fi pool) (hn : n < 122) {p c : Nat} (e1 : par n = th) (e2 : com n = false) (e3 : tp n = p) (e4 : tc n = c) (hp : p + c ≤ sz) (hs : sz ≤ 2000) (hc0 : 0 < c) : zC l y_O_delete b_O_delete 3 (some .int) (rmD 3 0 0) D (zty cI cC cZ cV) [.ref (q 10), .int (nI p), .int (nI c)] N q f (fun v N' q' f' => v = some (.int (nI n)) ∧ N' = N ∧ q' = q ∧ zEd cC cI cZ q n po th ty false p c tz tt pa co pl mn (zoM false p c ma mr) f f') := by
  refine zC.of (by decide) (by simp [Value.category]) (Nat.le_of_ble_eq_true rfl) (fun G X Y => ?_)
  show G 0 0 0 [some (.ref (q 10)), some (.int (nI p)), some (.int (nI c))] [] N q f
  refine zr_aload_n X d_O_delete_0 rfl ?_
  refine zr_iload_n X d_O_delete_1 rfl ?_
  refine zr_iload_n X d_O_delete_2 rfl ?_
  refine zr_callV X K_O_58 KI_O_58 KS_O_58 (c_O_isStretch_y hN h10 (by omega) hp) d_O_delete_3 (by omega) h10 rfl rfl (by decide) (Nat.le_of_ble_eq_true rfl) (by decide) (st := []) rfl (kRd ?_)
  show G 0 0 6 [some (.ref (q 10)), some (.int (nI p)), some (.int (nI c))] [.int (nI 1)] N q f
  refine zr_if_net (tgt := 11) X d_O_delete_6 rfl (by decide) ?_
  refine zr_iload_n X d_O_delete_11 rfl ?_
  refine zr_if_net (tgt := 18) X d_O_delete_12 rfl (nI_ne0 hc0 (by omega)) ?_
  refine zr_aload_n X d_O_delete_18 rfl ?_
  refine zr_get X F_O_7 d_O_delete_19 (by omega) h10 (v := .int (nI n)) rfl ?_
  refine zr_bipush (v := nI 122) X d_O_delete_22 (by decide) ?_
  refine zr_icmp_net (tgt := 32) X d_O_delete_24 rfl (fun h9 => absurd ((nI_eq (by omega) (by decide)).mp h9) (by omega)) ?_
  refine zr_aload_n X d_O_delete_32 rfl ?_
  refine zr_iconst (v := zbi false) X d_O_delete_33 (by decide) ?_
  refine zr_iload_n X d_O_delete_34 rfl ?_
  refine zr_iload_n X d_O_delete_35 rfl ?_
  refine zr_callV X K_O_86 KI_O_86 KS_O_86 (c_O_edit (b := false) hN h10 h11 h12 h13 h14 h15 h16 h17 h18 h21 h22 htx hpool T M hn e1 e2 e3 e4 (fun h9 => by rw [e2] at h9; cases h9)) d_O_delete_36 (by omega) h10 rfl rfl (by decide) (Nat.le_of_ble_eq_true rfl) (by decide) (st := []) rfl (fun v9 N9 q9 f9 hr9 => ?_)
  obtain ⟨rfl, eN, eq9, hr9⟩ := hr9
  rw [eN, eq9]
  show G 0 0 39 [some (.ref (q 10)), some (.int (nI p)), some (.int (nI c))] [.int (nI n)] N q f9
  refine zr_ireturn Y d_O_delete_39 rfl (Nat.le_of_ble_eq_true rfl) (Nat.le_of_ble_eq_true rfl) ?_
  exact ⟨rfl, rfl, rfl, hr9⟩

/-- what came in lies in the pool, ahead of po -/
def zPool (n : Nat) (com : Nat → Bool) (tc : Nat → Nat) (tq : Nat → Nat → Int32) (fi pool : Nat → Int32) (po : Nat) : Prop := ∀ v, 0 < v → v < n → com v = true → ∃ a, fi v = nI a ∧ a + tc v ≤ po ∧ ∀ i, i < tc v → pool (a + i) = tq v i
theorem zMT.pool {n : Nat} {par : Nat → Nat} {com : Nat → Bool} {tp tc : Nat → Nat} {tq : Nat → Nat → Int32} {pa co pl mn fi pool sc : Nat → Int32} {po ty : Nat} (M : zMT n par com tp tc tq pa co pl mn fi pool) (L : zPool n com tc tq fi pool po) (hpo : po + ty ≤ 2000) : zMT n par com tp tc tq pa co pl mn (upd fi n (nI po)) (va_cpy sc pool 0 po ty) := by
  intro v h0 hv
  obtain ⟨h1, h2, h3, h4, -⟩ := M v h0 hv
  refine ⟨h1, h2, h3, h4, fun hc => ?_⟩
  obtain ⟨a, k1, k2, k3⟩ := L v h0 hv hc
  exact ⟨a, (pk_un (by omega)).trans k1, by omega, fun i hi => (pk_cpy_out (Or.inl (by omega))).trans (k3 i hi)⟩

set_option maxRecDepth 100000 in
set_option maxHeartbeats 4000000 in
theorem c_O_insert_y {l : Launch} {D : va_G} {cI cC cZ cV : ClassId} {N : Nat} {q : Nat → Nat} {f : zF} (hN : 23 ≤ N) {n po th sz ty : Nat} (h10 : f 10 = zmo q n po th sz ty) {pa : Nat → Int32} (h11 : f 11 = .inl (cI, 122, .inl pa)) {co : Nat → Int32} (h12 : f 12 = .inl (cZ, 122, .inl co)) {pl : Nat → Int32} (h13 : f 13 = .inl (cI, 122, .inl pl)) {mn : Nat → Int32} (h14 : f 14 = .inl (cI, 122, .inl mn)) {fi : Nat → Int32} (h15 : f 15 = .inl (cI, 122, .inl fi)) {pool : Nat → Int32} (h16 : f 16 = .inl (cC, 2000, .inl pool)) {tx : Nat → Int32} (h17 : f 17 = .inl (cC, 2000, .inl tx)) {way : Nat → Int32} (h18 : f 18 = .inl (cI, 122, .inl way)) {sc : Nat → Int32} (h19 : f 19 = .inl (cC, 40, .inl sc)) {ma : Nat → Int32} (h21 : f 21 = .inl (cI, 6, .inl ma)) {mr : Nat → Int32} (h22 : f 22 = .inl (cZ, 6, .inl mr)) (htx : zCh tx) (hpool : zCh pool) {par : Nat → Nat} {com : Nat → Bool} {tp tc : Nat → Nat} {tq : Nat → Nat → Int32} {tz : Nat → Nat} {tt : Nat → Nat → Int32} (T : zTree (n + 1) par com tp tc tq tz tt) (M : zMT n par com tp tc tq pa co pl mn fi pool) (hn : n < 122) {p : Nat} (e1 : par n = th) (e2 : com n = true) (e3 : tp n = p) (e4 : tc n = ty) (hsc : zCh sc) (L : zPool n com tc tq fi pool po) (htq : ∀ i, i < ty → tq n i = sc i) (hp : p ≤ sz) (hs : sz ≤ 2000) (hk0 : 0 < ty) (hk : ty ≤ 40) (hik : po + ty ≤ 2000) : zC l y_O_insert b_O_insert 3 (some .int) (rmD 3 0 0) D (zty cI cC cZ cV) [.ref (q 10), .int (nI p)] N q f (fun v N' q' f' => v = some (.int (nI n)) ∧ N' = N ∧ q' = q ∧ zEd cC cI cZ q n (po + ty) th ty true p ty tz tt pa co pl mn (zoM true p ty ma mr) (va_up (va_up f 15 (.inl (cI, 122, .inl (upd fi n (nI po))))) 16 (.inl (cC, 2000, .inl (va_cpy sc pool 0 po ty)))) f') := by
  refine zC.of (by decide) (by simp [Value.category]) (Nat.le_of_ble_eq_true rfl) (fun G X Y => ?_)
  show G 0 0 0 [some (.ref (q 10)), some (.int (nI p)), none] [] N q f
  have loop : ∀ (d i : Nat), i + d = ty → G 0 0 62 [some (.ref (q 10)), some (.int (nI p)), some (.int (nI i))] [] N q (va_up (va_up f 15 (.inl (cI, 122, .inl (upd fi n (nI po))))) 16 (.inl (cC, 2000, .inl (va_cpy sc pool 0 po i)))) := by
    intro d
    induction d with
    | zero =>
      intro i hi
      have hi2 : ty = i := by omega
      subst hi2
      show G 0 0 62 [some (.ref (q 10)), some (.int (nI p)), some (.int (nI ty))] [] N q (va_up (va_up f 15 (.inl (cI, 122, .inl (upd fi n (nI po))))) 16 (.inl (cC, 2000, .inl (va_cpy sc pool 0 po ty))))
      refine zr_iload_n X d_O_insert_62 rfl ?_
      refine zr_aload_n X d_O_insert_63 rfl ?_
      refine zr_get X F_O_52 d_O_insert_64 (by omega) (up_ne (by decide) (up_ne (by decide) h10)) (v := .int (nI ty)) rfl ?_
      refine zr_icmp_get (tgt := 93) X d_O_insert_67 rfl (nI_le (by omega) (by omega)) ?_
      refine zr_aload_n X d_O_insert_93 rfl ?_
      refine zr_aload_n X d_O_insert_94 rfl ?_
      refine zr_get X F_O_83 d_O_insert_95 (by omega) (up_ne (by decide) (up_ne (by decide) h10)) (v := .int (nI po)) rfl ?_
      refine zr_aload_n X d_O_insert_98 rfl ?_
      refine zr_get X F_O_52 d_O_insert_99 (by omega) (up_ne (by decide) (up_ne (by decide) h10)) (v := .int (nI ty)) rfl ?_
      refine zr_iadd (z := nI (po + ty)) X d_O_insert_102 (nI_add _ _) ?_
      refine zr_put (fs' := [.int (nI n), .ref (q 11), .ref (q 12), .ref (q 13), .ref (q 14), .ref (q 15), .int (nI (po + ty)), .ref (q 16), .int (nI th), .int (nI sz), .ref (q 17), .ref (q 18), .int (nI ty), .ref (q 19), .ref (q 20), .ref (q 21), .ref (q 22)]) X F_O_83 d_O_insert_103 (by omega) (up_ne (by decide) (up_ne (by decide) h10)) rfl rfl (Nat.le_of_ble_eq_true rfl) rfl ?_
      refine zr_aload_n X d_O_insert_106 rfl ?_
      refine zr_iconst (v := zbi true) X d_O_insert_107 (by decide) ?_
      refine zr_iload_n X d_O_insert_108 rfl ?_
      refine zr_aload_n X d_O_insert_109 rfl ?_
      refine zr_get X F_O_52 d_O_insert_110 (by omega) up_eq (v := .int (nI ty)) rfl ?_
      refine zr_callV X K_O_86 KI_O_86 KS_O_86 (c_O_edit (b := true) hN up_eq (up_ne (by decide) (up_ne (by decide) (up_ne (by decide) h11))) (up_ne (by decide) (up_ne (by decide) (up_ne (by decide) h12))) (up_ne (by decide) (up_ne (by decide) (up_ne (by decide) h13))) (up_ne (by decide) (up_ne (by decide) (up_ne (by decide) h14))) (up_ne (by decide) (up_ne (by decide) up_eq)) (up_ne (by decide) up_eq) (up_ne (by decide) (up_ne (by decide) (up_ne (by decide) h17))) (up_ne (by decide) (up_ne (by decide) (up_ne (by decide) h18))) (up_ne (by decide) (up_ne (by decide) (up_ne (by decide) h21))) (up_ne (by decide) (up_ne (by decide) (up_ne (by decide) h22))) htx (zCh.cpy hsc hpool) T (M.pool L hik) hn e1 e2 e3 e4 (fun _ => ⟨po, pk_us, by rw [e4]; exact hik, fun a ha => by rw [e4] at ha; rw [pk_cpy_in (by omega) (by omega), show 0 + (po + a - po) = a by omega]; exact (htq a ha).symm⟩)) d_O_insert_113 (by omega) up_eq rfl rfl (by decide) (Nat.le_of_ble_eq_true rfl) (by decide) (st := []) rfl (fun v9 N9 q9 f9 hr9 => ?_)
      obtain ⟨rfl, eN, eq9, hr9⟩ := hr9
      rw [eN, eq9]
      show G 0 0 116 [some (.ref (q 10)), some (.int (nI p)), some (.int (nI ty))] [.int (nI n)] N q f9
      refine zr_ireturn Y d_O_insert_116 rfl (Nat.le_of_ble_eq_true rfl) (Nat.le_of_ble_eq_true rfl) ?_
      obtain ⟨r1, r2, r3, r4, r5, r6, r7⟩ := hr9
      exact ⟨rfl, rfl, rfl, ⟨r1, r2, r3, r4, r5, r6, fun jj k1 k2 k3 k4 k5 k6 k7 k8 => (r7 jj k1 k2 k3 k4 k5 k6 k7 k8).trans (up_ne k1 rfl)⟩⟩
    | succ d ih =>
      intro i hi
      show G 0 0 62 [some (.ref (q 10)), some (.int (nI p)), some (.int (nI i))] [] N q (va_up (va_up f 15 (.inl (cI, 122, .inl (upd fi n (nI po))))) 16 (.inl (cC, 2000, .inl (va_cpy sc pool 0 po i))))
      refine zr_iload_n X d_O_insert_62 rfl ?_
      refine zr_aload_n X d_O_insert_63 rfl ?_
      refine zr_get X F_O_52 d_O_insert_64 (by omega) (up_ne (by decide) (up_ne (by decide) h10)) (v := .int (nI ty)) rfl ?_
      refine zr_icmp_gef (tgt := 93) X d_O_insert_67 rfl (nI_ge (by omega) (by omega)) ?_
      refine zr_aload_n X d_O_insert_70 rfl ?_
      refine zr_get X F_O_30 d_O_insert_71 (by omega) (up_ne (by decide) (up_ne (by decide) h10)) (v := .ref (q 16)) rfl ?_
      refine zr_aload_n X d_O_insert_74 rfl ?_
      refine zr_get X F_O_83 d_O_insert_75 (by omega) (up_ne (by decide) (up_ne (by decide) h10)) (v := .int (nI po)) rfl ?_
      refine zr_iload_n X d_O_insert_78 rfl ?_
      refine zr_iadd (z := nI (po + i)) X d_O_insert_79 (nI_add _ _) ?_
      refine zr_aload_n X d_O_insert_80 rfl ?_
      refine zr_get X F_O_40 d_O_insert_81 (by omega) (up_ne (by decide) (up_ne (by decide) h10)) (v := .ref (q 19)) rfl ?_
      refine zr_iload_n X d_O_insert_84 rfl ?_
      refine zr_caload (v := sc i) X 1 d_O_insert_85 (by omega) (up_ne (by decide) (up_ne (by decide) h19)) rfl (by omega) (by decide) rfl ?_
      refine zr_castore X 1 d_O_insert_86 (by omega) up_eq rfl (by omega) (by decide) (z_charN (hsc _)) ?_
      refine zr_iinc (v := nI (i + 1)) (lv' := [some (.ref (q 10)), some (.int (nI p)), some (.int (nI (i + 1)))]) X d_O_insert_87 rfl (nI_1 _) (by decide) rfl ?_
      refine zr_goto (tgt := 62) X d_O_insert_90 rfl ?_
      have h9 := ih (i + 1) (by omega)
      rw [← cpy_upS] at h9
      rw [bx_uu]
      exact h9
  refine zr_aload_n X d_O_insert_0 rfl ?_
  refine zr_iload_n X d_O_insert_1 rfl ?_
  refine zr_callV X K_O_79 KI_O_79 KS_O_79 (c_O_isPosition_y hN h10 (by omega) hp) d_O_insert_2 (by omega) h10 rfl rfl (by decide) (Nat.le_of_ble_eq_true rfl) (by decide) (st := []) rfl (kRd ?_)
  show G 0 0 5 [some (.ref (q 10)), some (.int (nI p)), none] [.int (nI 1)] N q f
  refine zr_if_net (tgt := 10) X d_O_insert_5 rfl (by decide) ?_
  refine zr_aload_n X d_O_insert_10 rfl ?_
  refine zr_get X F_O_52 d_O_insert_11 (by omega) h10 (v := .int (nI ty)) rfl ?_
  refine zr_if_net (tgt := 20) X d_O_insert_14 rfl (nI_ne0 hk0 (by omega)) ?_
  refine zr_aload_n X d_O_insert_20 rfl ?_
  refine zr_get X F_O_7 d_O_insert_21 (by omega) h10 (v := .int (nI n)) rfl ?_
  refine zr_bipush (v := nI 122) X d_O_insert_24 (by decide) ?_
  refine zr_icmp_eqf (tgt := 44) X d_O_insert_26 rfl (fun h9 => absurd ((nI_eq (by omega) (by decide)).mp h9) (by omega)) ?_
  refine zr_aload_n X d_O_insert_29 rfl ?_
  refine zr_get X F_O_83 d_O_insert_30 (by omega) h10 (v := .int (nI po)) rfl ?_
  refine zr_aload_n X d_O_insert_33 rfl ?_
  refine zr_get X F_O_52 d_O_insert_34 (by omega) h10 (v := .int (nI ty)) rfl ?_
  refine zr_iadd (z := nI (po + ty)) X d_O_insert_37 (nI_add _ _) ?_
  refine zr_sipush (v := nI 2000) X d_O_insert_38 (by decide) ?_
  refine zr_icmp_let (tgt := 47) X d_O_insert_41 rfl (nI_le hik (by decide)) ?_
  refine zr_aload_n X d_O_insert_47 rfl ?_
  refine zr_get X F_O_27 d_O_insert_48 (by omega) h10 (v := .ref (q 15)) rfl ?_
  refine zr_aload_n X d_O_insert_51 rfl ?_
  refine zr_get X F_O_7 d_O_insert_52 (by omega) h10 (v := .int (nI n)) rfl ?_
  refine zr_aload_n X d_O_insert_55 rfl ?_
  refine zr_get X F_O_83 d_O_insert_56 (by omega) h10 (v := .int (nI po)) rfl ?_
  refine zr_iastore X 0 d_O_insert_59 (by omega) h15 rfl (by omega) (by decide) ?_
  refine zr_iconst (v := nI 0) X d_O_insert_60 (by decide) ?_
  refine zr_istore_n (lv' := [some (.ref (q 10)), some (.int (nI p)), some (.int (nI 0))]) X d_O_insert_61 (by decide) rfl ?_
  have h9 := loop ty 0 (by omega)
  rw [cpy_0, up_self (up_ne (by decide) h16)] at h9
  exact h9
