set_option maxRecDepth 100000 in
set_option maxHeartbeats 4000000 in
theorem c_B_stepAlongWay {l : Launch} {D : va_G} {cI cC cZ cV : ClassId} {N : Nat} {q : Nat → Nat} {f : zF} {n ins : Nat} {par : Nat → Nat} {com : Nat → Bool} {tp tc : Nat → Nat} {tq : Nat → Nat → Int32} {tz : Nat → Nat} {tt : Nat → Nat → Int32} {cn : Nat → Nat} {lat : Nat → Value} {mp mr : Nat → Int32} (hNn : 23 + 2 * n ≤ N) (h5 : f 5 = .inr (iM, [.ref (q 6), .ref (q 7)])) (h7 : f 7 = .inl (cZ, 6, .inl mr)) (V : zVs cC q f n par com tp tc tq cn lat) (T : zTree n par com tp tc tq tz tt) {b ko : Nat} {wo : Nat → Option Nat} (h9 : f 9 = .inl (cV, 122, .inr (.inr (.inr (.inr wo))))) (hko : ko ≤ 122) (hwo : ∀ k, k < ko → wo k = some (q (24 + 2 * zit par b k)) ∧ 0 < zit par b k ∧ zit par b k < n) (Cu : zCur cC cI q n ins (zit par b ko) tz tt mp f) : zC l y_B_stepAlongWay b_B_stepAlongWay 4 none (rmD 4 0 0) D (zty cI cC cZ cV) [.ref (q 0), .int (nI ko)] N q f (pV N q (fun f' => zCur cC cI q n ins b tz tt (zons par com tp tc b ko mr mp ko) f' ∧ (∀ jj, jj ≠ 0 → jj ≠ 1 → jj ≠ 2 → jj ≠ 6 → f' jj = f jj))) := by
  refine zC.of (by decide) (by simp [Value.category]) (Nat.le_of_ble_eq_true rfl) (fun G X Y => ?_)
  show G 0 0 0 [some (.ref (q 0)), some (.int (nI ko)), none, none] [] N q f
  have loop : ∀ (i : Nat) (F : zF) (o : Option Value), i ≤ ko → zCur cC cI q n ins (zit par b i) tz tt (zons par com tp tc b ko mr mp (ko - i)) F → (∀ jj, jj ≠ 0 → jj ≠ 1 → jj ≠ 2 → jj ≠ 6 → F jj = f jj) → G 0 0 4 [some (.ref (q 0)), some (.int (nI ko)), some (.int (nI i - 1)), o] [] N q F := by
    intro i
    induction i with
    | zero =>
      intro F o hi Cu hF
      show G 0 0 4 [some (.ref (q 0)), some (.int (nI ko)), some (.int (nI 0 - 1)), o] [] N q F
      refine zr_iload_n X d_B_stepAlongWay_4 rfl ?_
      refine zr_if_ltt (tgt := 30) X d_B_stepAlongWay_5 rfl (by decide) ?_
      refine zr_return Y d_B_stepAlongWay_30 (Nat.le_of_ble_eq_true rfl) (Nat.le_of_ble_eq_true rfl) ?_
      exact ⟨rfl, rfl, rfl, Cu, hF⟩
    | succ i ih =>
      intro F o hi Cu hF
      rw [nI_pred i]
      have hz : zons par com tp tc b ko mr mp (ko - i) = zoM (com (zit par b i)) (tp (zit par b i)) (tc (zit par b i)) (zons par com tp tc b ko mr mp (ko - (i + 1))) mr := by
        rw [show ko - i = (ko - (i + 1)) + 1 by omega]
        show zoM (com (zit par b (ko - (ko - (i + 1) + 1)))) _ _ _ _ = _
        rw [show ko - (ko - (i + 1) + 1) = i by omega]
      have hw := hwo i (by omega)
      have hF9 : F 9 = .inl (cV, 122, .inr (.inr (.inr (.inr wo)))) := (hF 9 (by decide) (by decide) (by decide) (by decide)).trans h9
      show G 0 0 4 [some (.ref (q 0)), some (.int (nI ko)), some (.int (nI i)), o] [] N q F
      refine zr_iload_n X d_B_stepAlongWay_4 rfl ?_
      refine zr_if_ltf (tgt := 30) X d_B_stepAlongWay_5 rfl (nI_pos (by omega)) ?_
      refine zr_aload_n X d_B_stepAlongWay_8 rfl ?_
      refine zr_get X F_B_34 d_B_stepAlongWay_9 (by omega) Cu.1 (v := .ref (q 9)) rfl ?_
      refine zr_iload_n X d_B_stepAlongWay_12 rfl ?_
      refine zr_aaload (v := some ((q (24 + 2 * zit par b i)))) X 3 d_B_stepAlongWay_13 (by omega) hF9 rfl (by omega) (by decide) hw.1 ?_
      show G 0 0 14 [some (.ref (q 0)), some (.int (nI ko)), some (.int (nI i)), o] [.ref (q (24 + 2 * zit par b i))] N q F
      refine zr_astore_n (lv' := [some (.ref (q 0)), some (.int (nI ko)), some (.int (nI i)), some (.ref (q (24 + 2 * zit par b i)))]) X d_B_stepAlongWay_14 (by decide) rfl ?_
      refine zr_aload_n X d_B_stepAlongWay_15 rfl ?_
      refine zr_ifnull X d_B_stepAlongWay_16 ?_
      refine zr_aload_n X d_B_stepAlongWay_19 rfl ?_
      refine zr_aload_n X d_B_stepAlongWay_20 rfl ?_
      refine zr_callV X K_B_97 KI_B_97 KS_B_97 (c_B_stepOnV hNn (w := zit par b i) Cu ((hF 5 (by decide) (by decide) (by decide) (by decide)).trans h5) ((hF 7 (by decide) (by decide) (by decide) (by decide)).trans h7) (V.keep (fun jj h => hF jj (by omega) (by omega) (by omega) (by omega))) T hw.2.1 hw.2.2) d_B_stepAlongWay_21 (by omega) Cu.1 rfl rfl (by decide) (Nat.le_of_ble_eq_true rfl) (by decide) (st := []) rfl (kV fun F1 hF1 => ?_)
      show G 0 0 24 [some (.ref (q 0)), some (.int (nI ko)), some (.int (nI i)), some (.ref (q (24 + 2 * zit par b i)))] [] N q F1
      refine zr_iinc (v := nI i - 1) (lv' := [some (.ref (q 0)), some (.int (nI ko)), some (.int (nI i - 1)), some (.ref (q (24 + 2 * zit par b i)))]) X d_B_stepAlongWay_24 rfl (z_dec _) (by decide) rfl ?_
      refine zr_goto (tgt := 4) X d_B_stepAlongWay_27 rfl ?_
      exact ih F1 _ (by omega) (by rw [hz]; exact hF1.1) (fun jj a b c d => (hF1.2 jj a b c d).trans (hF jj a b c d))
  refine zr_iload_n X d_B_stepAlongWay_0 rfl ?_
  refine zr_iconst (v := 1) X d_B_stepAlongWay_1 (by decide) ?_
  refine zr_isub (z := nI ko - 1) X d_B_stepAlongWay_2 rfl ?_
  refine zr_istore_n (lv' := [some (.ref (q 0)), some (.int (nI ko)), some (.int (nI ko - 1)), none]) X d_B_stepAlongWay_3 (by decide) rfl ?_
  exact loop ko f none (Nat.le_refl _) (by rw [Nat.sub_self]; exact Cu) (fun _ _ _ _ _ => rfl)

set_option maxRecDepth 100000 in
set_option maxHeartbeats 4000000 in
theorem c_B_goTo_n {l : Launch} {D : va_G} {cI cC cZ cV : ClassId} {N : Nat} {q : Nat → Nat} {f : zF} (hN : 23 ≤ N) {n ins jt : Nat} (h0 : f 0 = zbo q n ins jt) {x : Int32} (hx : zNa x n) : zC l y_B_goTo b_B_goTo 6 (some .int) (rmD 5 0 0) D (zty cI cC cZ cV) [.ref (q 0), .int x] N q f (pRd N q f (-1)) := by
  refine zC.of (by decide) (by simp [Value.category]) (Nat.le_of_ble_eq_true rfl) (fun G X Y => ?_)
  show G 0 0 0 [some (.ref (q 0)), some (.int x), none, none, none, none] [] N q f
  refine zr_aload_n X d_B_goTo_0 rfl ?_
  refine zr_iload_n X d_B_goTo_1 rfl ?_
  refine zr_callV X K_B_100 KI_B_100 KS_B_100 (c_B_numbered_n hN h0 hx) d_B_goTo_2 (by omega) h0 rfl rfl (by decide) (Nat.le_of_ble_eq_true rfl) (by decide) (st := []) rfl (kR ?_)
  show G 0 0 5 [some (.ref (q 0)), some (.int x), none, none, none, none] [.null] N q f
  refine zr_astore_nN (lv' := [some (.ref (q 0)), some (.int x), some (.null), none, none, none]) X d_B_goTo_5 (by decide) rfl ?_
  refine zr_aload_nN X d_B_goTo_6 rfl ?_
  refine zr_ifnonnullN X d_B_goTo_7 ?_
  refine zr_iconst (v := (-1)) X d_B_goTo_10 (by decide) ?_
  refine zr_ireturn Y d_B_goTo_11 rfl (Nat.le_of_ble_eq_true rfl) (Nat.le_of_ble_eq_true rfl) ?_
  exact ⟨rfl, rfl, rfl, rfl⟩

set_option maxRecDepth 100000 in
set_option maxHeartbeats 4000000 in
theorem c_B_goTo_y {l : Launch} {D : va_G} {cI cC cZ cV : ClassId} {N : Nat} {q : Nat → Nat} {f : zF} {n ins : Nat} {par : Nat → Nat} {com : Nat → Bool} {tp tc : Nat → Nat} {tq : Nat → Nat → Int32} {tz : Nat → Nat} {tt : Nat → Nat → Int32} {cn : Nat → Nat} {lat : Nat → Value} {mp mr : Nat → Int32} (hNn : 23 + 2 * n ≤ N) (h5 : f 5 = .inr (iM, [.ref (q 6), .ref (q 7)])) (h7 : f 7 = .inl (cZ, 6, .inl mr)) (V : zVs cC q f n par com tp tc tq cn lat) (T : zTree n par com tp tc tq tz tt) {a b kb ko : Nat} {md wo : Nat → Option Nat} (h8 : f 8 = .inl (cV, 122, .inr (.inr (.inr (.inr md))))) (h9 : f 9 = .inl (cV, 122, .inr (.inr (.inr (.inr wo))))) (hn : n ≤ 122) (hp0 : par 0 = 0) (ha : a < n) (hb : b < n) (w : zWay par a b kb ko) (hm : md b = some (q (24 + 2 * b))) (Cu : zCur cC cI q n ins a tz tt mp f) : zC l y_B_goTo b_B_goTo 6 (some .int) (rmD 5 0 0) D (zty cI cC cZ cV) [.ref (q 0), .int (nI b)] N q f (fun v N' q' f' => v = some (.int (nI (kb + ko))) ∧ N' = N ∧ q' = q ∧ zCur cC cI q n ins b tz tt (zons par com tp tc b ko mr (zbks par com tp tc a mr mp kb) ko) f' ∧ (∀ jj, jj ≠ 0 → jj ≠ 1 → jj ≠ 2 → jj ≠ 6 → jj ≠ 9 → f' jj = f jj) ∧ ∃ wo', f' 9 = .inl (cV, 122, .inr (.inr (.inr (.inr wo'))))) := by
  refine zC.of (by decide) (by simp [Value.category]) (Nat.le_of_ble_eq_true rfl) (fun G X Y => ?_)
  show G 0 0 0 [some (.ref (q 0)), some (.int (nI b)), none, none, none, none] [] N q f
  refine zr_inj X (fun hinj => ?_)
  have hp := fun v h0 h => T.lt (v := v) h0 h
  have hkb := w.kb hp hp0 ha hb
  have hko := w.ko hp hp0 hb
  have loop : ∀ (d i j : Nat) (F : zF) (wo : Nat → Option Nat) (o : Option Value), i ≤ kb → j ≤ ko → (kb - i) + (ko - j) = d → zCur cC cI q n ins (zit par a i) tz tt (zbks par com tp tc a mr mp i) F → F 9 = .inl (cV, 122, .inr (.inr (.inr (.inr wo)))) → (∀ k, k < j → wo k = some (q (24 + 2 * zit par b k))) → (∀ jj, jj ≠ 0 → jj ≠ 1 → jj ≠ 2 → jj ≠ 6 → jj ≠ 9 → F jj = f jj) → G 0 0 17 [some (.ref (q 0)), some (.int (nI b)), some (.ref (q (24 + 2 * zit par b j))), some (.int (nI i)), some (.int (nI j)), o] [] N q F := by
    intro d
    induction d with
    | zero =>
      intro i j F wo o hi hj hd Cu hF9 hwo hF
      have hza := zit_lt hp hp0 ha i
      have hzb := zit_lt hp hp0 hb j
      have hF5 : F 5 = .inr (iM, [.ref (q 6), .ref (q 7)]) := (hF 5 (by decide) (by decide) (by decide) (by decide) (by decide)).trans h5
      have hF7 : F 7 = .inl (cZ, 6, .inl mr) := (hF 7 (by decide) (by decide) (by decide) (by decide) (by decide)).trans h7
      have hVF : zVs cC q F n par com tp tc tq cn lat := V.keep (fun jj h => hF jj (by omega) (by omega) (by omega) (by omega) (by omega))
      have hik : i = kb := by omega
      have hjk : j = ko := by omega
      subst hik
      subst hjk
      have hwm : zit par a i = zit par b j := w.1
      show G 0 0 17 [some (.ref (q 0)), some (.int (nI b)), some (.ref (q (24 + 2 * zit par b j))), some (.int (nI i)), some (.int (nI j)), o] [] N q F
      refine zr_aload_n X d_B_goTo_17 rfl ?_
      refine zr_get X F_B_40 d_B_goTo_18 (by omega) Cu.1 (v := .ref (q (24 + 2 * zit par a i))) rfl ?_
      refine zr_aload_n X d_B_goTo_21 rfl ?_
      refine zr_acmp_eqt (tgt := 119) X d_B_goTo_22 rfl (by rw [hwm]) ?_
      refine zr_aload_n X d_B_goTo_119 rfl ?_
      refine zr_iload X d_B_goTo_120 rfl ?_
      refine zr_callV X K_B_104 KI_B_104 KS_B_104 (c_B_stepAlongWay hNn hF5 hF7 hVF T (b := b) hF9 (by omega) (fun k hk => ⟨hwo k hk, w.on hp0 hk, zit_lt hp hp0 hb k⟩) (by rw [← hwm]; exact Cu)) d_B_goTo_122 (by omega) Cu.1 rfl rfl (by decide) (Nat.le_of_ble_eq_true rfl) (by decide) (st := []) rfl (kV fun F1 hF1 => ?_)
      show G 0 0 125 [some (.ref (q 0)), some (.int (nI b)), some (.ref (q (24 + 2 * zit par b j))), some (.int (nI i)), some (.int (nI j)), o] [] N q F1
      refine zr_iload_n X d_B_goTo_125 rfl ?_
      refine zr_iload X d_B_goTo_126 rfl ?_
      refine zr_iadd (z := nI (i + j)) X d_B_goTo_128 (nI_add _ _) ?_
      refine zr_ireturn Y d_B_goTo_129 rfl (Nat.le_of_ble_eq_true rfl) (Nat.le_of_ble_eq_true rfl) ?_
      exact ⟨rfl, rfl, rfl, hF1.1, fun jj a b c d e => (hF1.2 jj a b c d).trans (hF jj a b c d e), wo, (hF1.2 9 (by decide) (by decide) (by decide) (by decide)).trans hF9⟩
    | succ d ih =>
      intro i j F wo o hi hj hd Cu hF9 hwo hF
      have hza := zit_lt hp hp0 ha i
      have hzb := zit_lt hp hp0 hb j
      have hF5 : F 5 = .inr (iM, [.ref (q 6), .ref (q 7)]) := (hF 5 (by decide) (by decide) (by decide) (by decide) (by decide)).trans h5
      have hF7 : F 7 = .inl (cZ, 6, .inl mr) := (hF 7 (by decide) (by decide) (by decide) (by decide) (by decide)).trans h7
      have hVF : zVs cC q F n par com tp tc tq cn lat := V.keep (fun jj h => hF jj (by omega) (by omega) (by omega) (by omega) (by omega))
      obtain ⟨g1, g2, g3⟩ := w.gt hp hp0 ha hb hi hj
      by_cases heq : zit par a i = zit par b j
      · skip
        obtain ⟨hik, hjk⟩ := g3 heq
        subst hik
        subst hjk
        have hwm : zit par a i = zit par b j := w.1
        show G 0 0 17 [some (.ref (q 0)), some (.int (nI b)), some (.ref (q (24 + 2 * zit par b j))), some (.int (nI i)), some (.int (nI j)), o] [] N q F
        refine zr_aload_n X d_B_goTo_17 rfl ?_
        refine zr_get X F_B_40 d_B_goTo_18 (by omega) Cu.1 (v := .ref (q (24 + 2 * zit par a i))) rfl ?_
        refine zr_aload_n X d_B_goTo_21 rfl ?_
        refine zr_acmp_eqt (tgt := 119) X d_B_goTo_22 rfl (by rw [hwm]) ?_
        refine zr_aload_n X d_B_goTo_119 rfl ?_
        refine zr_iload X d_B_goTo_120 rfl ?_
        refine zr_callV X K_B_104 KI_B_104 KS_B_104 (c_B_stepAlongWay hNn hF5 hF7 hVF T (b := b) hF9 (by omega) (fun k hk => ⟨hwo k hk, w.on hp0 hk, zit_lt hp hp0 hb k⟩) (by rw [← hwm]; exact Cu)) d_B_goTo_122 (by omega) Cu.1 rfl rfl (by decide) (Nat.le_of_ble_eq_true rfl) (by decide) (st := []) rfl (kV fun F1 hF1 => ?_)
        show G 0 0 125 [some (.ref (q 0)), some (.int (nI b)), some (.ref (q (24 + 2 * zit par b j))), some (.int (nI i)), some (.int (nI j)), o] [] N q F1
        refine zr_iload_n X d_B_goTo_125 rfl ?_
        refine zr_iload X d_B_goTo_126 rfl ?_
        refine zr_iadd (z := nI (i + j)) X d_B_goTo_128 (nI_add _ _) ?_
        refine zr_ireturn Y d_B_goTo_129 rfl (Nat.le_of_ble_eq_true rfl) (Nat.le_of_ble_eq_true rfl) ?_
        exact ⟨rfl, rfl, rfl, hF1.1, fun jj a b c d e => (hF1.2 jj a b c d).trans (hF jj a b c d e), wo, (hF1.2 9 (by decide) (by decide) (by decide) (by decide)).trans hF9⟩
      · skip
        have hne : ¬ q (24 + 2 * zit par a i) = q (24 + 2 * zit par b j) := fun h => heq (by have := hinj _ _ (by omega) (by omega) h; omega)
        by_cases hgt : zit par b j < zit par a i
        · skip
          have hi3 := g1 hgt
          have hVa := hVF.par (v := zit par a i) (by omega) hza
          have hVb := (hVF (zit par b j) hzb).1
          show G 0 0 17 [some (.ref (q 0)), some (.int (nI b)), some (.ref (q (24 + 2 * zit par b j))), some (.int (nI i)), some (.int (nI j)), o] [] N q F
          refine zr_aload_n X d_B_goTo_17 rfl ?_
          refine zr_get X F_B_40 d_B_goTo_18 (by omega) Cu.1 (v := .ref (q (24 + 2 * zit par a i))) rfl ?_
          refine zr_aload_n X d_B_goTo_21 rfl ?_
          refine zr_acmp_eqf (tgt := 119) X d_B_goTo_22 rfl hne ?_
          refine zr_iload_n X d_B_goTo_25 rfl ?_
          refine zr_bipush (v := nI 122) X d_B_goTo_26 (by decide) ?_
          refine zr_icmp_gef (tgt := 119) X d_B_goTo_28 rfl (nI_ge (by omega) (by omega)) ?_
          refine zr_iload X d_B_goTo_31 rfl ?_
          refine zr_bipush (v := nI 122) X d_B_goTo_33 (by decide) ?_
          refine zr_icmp_gef (tgt := 119) X d_B_goTo_35 rfl (nI_ge (by omega) (by omega)) ?_
          refine zr_aload_n X d_B_goTo_38 rfl ?_
          refine zr_get X F_B_40 d_B_goTo_39 (by omega) Cu.1 (v := .ref (q (24 + 2 * zit par a i))) rfl ?_
          refine zr_get X F_B_91 d_B_goTo_42 (by omega) hVa (v := .int (nI (zit par a i))) rfl ?_
          refine zr_aload_n X d_B_goTo_45 rfl ?_
          refine zr_get X F_B_91 d_B_goTo_46 (by omega) hVb (v := .int (nI (zit par b j))) rfl ?_
          refine zr_icmp_lef (tgt := 62) X d_B_goTo_49 rfl (nI_ge hgt (by omega)) ?_
          refine zr_aload_n X d_B_goTo_52 rfl ?_
          refine zr_get X F_B_40 d_B_goTo_53 (by omega) Cu.1 (v := .ref (q (24 + 2 * zit par a i))) rfl ?_
          refine zr_get X F_B_84 d_B_goTo_56 (by omega) hVa (v := .ref (q (24 + 2 * zit par a (i + 1)))) rfl ?_
          refine zr_goto (tgt := 66) X d_B_goTo_59 rfl ?_
          refine zr_astore (lv' := [some (.ref (q 0)), some (.int (nI b)), some (.ref (q (24 + 2 * zit par b j))), some (.int (nI i)), some (.int (nI j)), some (.ref (q (24 + 2 * zit par a (i + 1))))]) X d_B_goTo_66 (by decide) rfl ?_
          refine zr_aload X d_B_goTo_68 rfl ?_
          refine zr_ifnonnull (tgt := 76) X d_B_goTo_70 rfl ?_
          refine zr_aload_n X d_B_goTo_76 rfl ?_
          refine zr_get X F_B_40 d_B_goTo_77 (by omega) Cu.1 (v := .ref (q (24 + 2 * zit par a i))) rfl ?_
          refine zr_get X F_B_91 d_B_goTo_80 (by omega) hVa (v := .int (nI (zit par a i))) rfl ?_
          refine zr_aload_n X d_B_goTo_83 rfl ?_
          refine zr_get X F_B_91 d_B_goTo_84 (by omega) hVb (v := .int (nI (zit par b j))) rfl ?_
          refine zr_icmp_lef (tgt := 102) X d_B_goTo_87 rfl (nI_ge hgt (by omega)) ?_
          refine zr_aload_n X d_B_goTo_90 rfl ?_
          refine zr_aload X d_B_goTo_91 rfl ?_
          refine zr_callV X K_B_87 KI_B_87 KS_B_87 (c_B_stepBackV hNn Cu hF5 hF7 hVF T (by omega) hza) d_B_goTo_93 (by omega) Cu.1 rfl rfl (by decide) (Nat.le_of_ble_eq_true rfl) (by decide) (st := []) rfl (kV fun F1 hF1 => ?_)
          show G 0 0 96 [some (.ref (q 0)), some (.int (nI b)), some (.ref (q (24 + 2 * zit par b j))), some (.int (nI i)), some (.int (nI j)), some (.ref (q (24 + 2 * zit par a (i + 1))))] [] N q F1
          refine zr_iinc (v := nI (i + 1)) (lv' := [some (.ref (q 0)), some (.int (nI b)), some (.ref (q (24 + 2 * zit par b j))), some (.int (nI (i + 1))), some (.int (nI j)), some (.ref (q (24 + 2 * zit par a (i + 1))))]) X d_B_goTo_96 rfl (nI_1 _) (by decide) rfl ?_
          refine zr_goto (tgt := 116) X d_B_goTo_99 rfl ?_
          refine zr_goto (tgt := 17) X d_B_goTo_116 rfl ?_
          exact ih (i + 1) j F1 wo _ (by omega) hj (by omega) hF1.1 ((hF1.2 9 (by decide) (by decide) (by decide) (by decide)).trans hF9) hwo (fun jj a b c d e => (hF1.2 jj a b c d).trans (hF jj a b c d e))
        · skip
          have hlt : zit par a i < zit par b j := by omega
          have hj3 := g2 hlt
          have hVb := hVF.par (v := zit par b j) (by omega) hzb
          have hVa := (hVF (zit par a i) hza).1
          show G 0 0 17 [some (.ref (q 0)), some (.int (nI b)), some (.ref (q (24 + 2 * zit par b j))), some (.int (nI i)), some (.int (nI j)), o] [] N q F
          refine zr_aload_n X d_B_goTo_17 rfl ?_
          refine zr_get X F_B_40 d_B_goTo_18 (by omega) Cu.1 (v := .ref (q (24 + 2 * zit par a i))) rfl ?_
          refine zr_aload_n X d_B_goTo_21 rfl ?_
          refine zr_acmp_eqf (tgt := 119) X d_B_goTo_22 rfl hne ?_
          refine zr_iload_n X d_B_goTo_25 rfl ?_
          refine zr_bipush (v := nI 122) X d_B_goTo_26 (by decide) ?_
          refine zr_icmp_gef (tgt := 119) X d_B_goTo_28 rfl (nI_ge (by omega) (by omega)) ?_
          refine zr_iload X d_B_goTo_31 rfl ?_
          refine zr_bipush (v := nI 122) X d_B_goTo_33 (by decide) ?_
          refine zr_icmp_gef (tgt := 119) X d_B_goTo_35 rfl (nI_ge (by omega) (by omega)) ?_
          refine zr_aload_n X d_B_goTo_38 rfl ?_
          refine zr_get X F_B_40 d_B_goTo_39 (by omega) Cu.1 (v := .ref (q (24 + 2 * zit par a i))) rfl ?_
          refine zr_get X F_B_91 d_B_goTo_42 (by omega) hVa (v := .int (nI (zit par a i))) rfl ?_
          refine zr_aload_n X d_B_goTo_45 rfl ?_
          refine zr_get X F_B_91 d_B_goTo_46 (by omega) hVb (v := .int (nI (zit par b j))) rfl ?_
          refine zr_icmp_let (tgt := 62) X d_B_goTo_49 rfl (nI_le (by omega) (by omega)) ?_
          refine zr_aload_n X d_B_goTo_62 rfl ?_
          refine zr_get X F_B_84 d_B_goTo_63 (by omega) hVb (v := .ref (q (24 + 2 * zit par b (j + 1)))) rfl ?_
          refine zr_astore (lv' := [some (.ref (q 0)), some (.int (nI b)), some (.ref (q (24 + 2 * zit par b j))), some (.int (nI i)), some (.int (nI j)), some (.ref (q (24 + 2 * zit par b (j + 1))))]) X d_B_goTo_66 (by decide) rfl ?_
          refine zr_aload X d_B_goTo_68 rfl ?_
          refine zr_ifnonnull (tgt := 76) X d_B_goTo_70 rfl ?_
          refine zr_aload_n X d_B_goTo_76 rfl ?_
          refine zr_get X F_B_40 d_B_goTo_77 (by omega) Cu.1 (v := .ref (q (24 + 2 * zit par a i))) rfl ?_
          refine zr_get X F_B_91 d_B_goTo_80 (by omega) hVa (v := .int (nI (zit par a i))) rfl ?_
          refine zr_aload_n X d_B_goTo_83 rfl ?_
          refine zr_get X F_B_91 d_B_goTo_84 (by omega) hVb (v := .int (nI (zit par b j))) rfl ?_
          refine zr_icmp_let (tgt := 102) X d_B_goTo_87 rfl (nI_le (by omega) (by omega)) ?_
          refine zr_aload_n X d_B_goTo_102 rfl ?_
          refine zr_get X F_B_34 d_B_goTo_103 (by omega) Cu.1 (v := .ref (q 9)) rfl ?_
          refine zr_iload X d_B_goTo_106 rfl ?_
          refine zr_aload_n X d_B_goTo_108 rfl ?_
          refine zr_aastore X 3 d_B_goTo_109 (by omega) hF9 rfl (by omega) (by decide) (by omega) hVb rfl ?_
          refine zr_iinc (v := nI (j + 1)) (lv' := [some (.ref (q 0)), some (.int (nI b)), some (.ref (q (24 + 2 * zit par b j))), some (.int (nI i)), some (.int (nI (j + 1))), some (.ref (q (24 + 2 * zit par b (j + 1))))]) X d_B_goTo_110 rfl (nI_1 _) (by decide) rfl ?_
          refine zr_aload X d_B_goTo_113 rfl ?_
          refine zr_astore_n (lv' := [some (.ref (q 0)), some (.int (nI b)), some (.ref (q (24 + 2 * zit par b (j + 1)))), some (.int (nI i)), some (.int (nI (j + 1))), some (.ref (q (24 + 2 * zit par b (j + 1))))]) X d_B_goTo_115 (by decide) rfl ?_
          refine zr_goto (tgt := 17) X d_B_goTo_116 rfl ?_
          refine ih i (j + 1) _ (va_up wo j (some (q (24 + 2 * zit par b j)))) _ hi (by omega) (by omega) ⟨up_ne (by decide) Cu.1, up_ne (by decide) Cu.2.1, ?_, up_ne (by decide) Cu.2.2.2⟩ up_eq (fun k hk => ?_) (fun jj a b c d e => up_ne e (hF jj a b c d e))
          · obtain ⟨tx, h2, h3⟩ := Cu.2.2.1
            exact ⟨tx, up_ne (by decide) h2, h3⟩
          · by_cases hkj : k = j
            · rw [hkj, up_eq]
            · rw [up_ne' hkj]
              exact hwo k (by omega)
  refine zr_aload_n X d_B_goTo_0 rfl ?_
  refine zr_iload_n X d_B_goTo_1 rfl ?_
  refine zr_callV X K_B_100 KI_B_100 KS_B_100 (c_B_numbered_y (by omega) Cu.1 h8 hb hn hm) d_B_goTo_2 (by omega) Cu.1 rfl rfl (by decide) (Nat.le_of_ble_eq_true rfl) (by decide) (st := []) rfl (kR ?_)
  show G 0 0 5 [some (.ref (q 0)), some (.int (nI b)), none, none, none, none] [.ref (q (24 + 2 * b))] N q f
  refine zr_astore_n (lv' := [some (.ref (q 0)), some (.int (nI b)), some (.ref (q (24 + 2 * b))), none, none, none]) X d_B_goTo_5 (by decide) rfl ?_
  refine zr_aload_n X d_B_goTo_6 rfl ?_
  refine zr_ifnonnull (tgt := 12) X d_B_goTo_7 rfl ?_
  refine zr_iconst (v := nI 0) X d_B_goTo_12 (by decide) ?_
  refine zr_istore_n (lv' := [some (.ref (q 0)), some (.int (nI b)), some (.ref (q (24 + 2 * b))), some (.int (nI 0)), none, none]) X d_B_goTo_13 (by decide) rfl ?_
  refine zr_iconst (v := nI 0) X d_B_goTo_14 (by decide) ?_
  refine zr_istore (lv' := [some (.ref (q 0)), some (.int (nI b)), some (.ref (q (24 + 2 * b))), some (.int (nI 0)), some (.int (nI 0)), none]) X d_B_goTo_15 (by decide) rfl ?_
  exact loop (kb + ko) 0 0 f wo none (Nat.zero_le _) (Nat.zero_le _) (by omega) Cu h9 (fun k hk => absurd hk (Nat.not_lt_zero _)) (fun _ _ _ _ _ _ => rfl)
