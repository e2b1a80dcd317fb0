/-- the reference's arrays hold the tree -/
def zMT (n : Nat) (par : Nat → Nat) (com : Nat → Bool) (tp tc : Nat → Nat) (tq : Nat → Nat → Int32) (pa co pl mn fi pool : Nat → Int32) : Prop := ∀ v, 0 < v → v < n → pa v = nI (par v) ∧ co v = zbi (com v) ∧ pl v = nI (tp v) ∧ mn v = nI (tc v) ∧ (com v = true → ∃ a, fi v = nI a ∧ a + tc v ≤ 2000 ∧ ∀ i, i < tc v → pool (a + i) = tq v i)
theorem z_pool {pool X : Nat → Int32} {a p c : Nat} : va_cpy pool X a p c = va_cpy (fun i => pool (a + i)) X 0 p c := by
  funext m
  unfold va_cpy
  split
  · show _ = pool (a + (0 + (m - p)))
    rw [Nat.zero_add]
  · rfl
theorem zit_succ {par : Nat → Nat} {v k : Nat} : zit par v (k + 1) = par (zit par v k) := rfl

theorem c_O_moveMarks {l : Launch} {D : va_G} {cI cC cZ cV : ClassId} {N : Nat} {q : Nat → Nat} {f : zF} (hN : 23 ≤ N) {n po th sz ty : Nat} (h10 : f 10 = zmo q n po th sz ty) {ma : Nat → Int32} (h21 : f 21 = .inl (cI, 6, .inl ma)) {mr : Nat → Int32} (h22 : f 22 = .inl (cZ, 6, .inl mr)) {p c : Nat} {b : Bool} : zC l y_O_moveMarks b_O_moveMarks 6 none (rmD 0 0 0) D (zty cI cC cZ cV) [.ref (q 10), .int (nI p), .int (nI c), .int (zbi b)] N q f (pW N q (va_up f 21 (.inl (cI, 6, .inl (zoM b p c ma mr))))) := by
  cases b with
  | true => exact c_O_moveIn hN h10 h21 h22
  | false => exact c_O_moveOut hN h10 h21 h22

set_option maxRecDepth 100000 in
set_option maxHeartbeats 4000000 in
theorem c_O_make {l : Launch} {D : va_G} {cI cC cZ cV : ClassId} {N : Nat} {q : Nat → Nat} {f : zF} (hN : 23 ≤ N) {n po th sz ty : Nat} (h10 : f 10 = zmo q n po th sz ty) {pa : Nat → Int32} (h11 : f 11 = .inl (cI, 122, .inl pa)) {co : Nat → Int32} (h12 : f 12 = .inl (cZ, 122, .inl co)) {pl : Nat → Int32} (h13 : f 13 = .inl (cI, 122, .inl pl)) {mn : Nat → Int32} (h14 : f 14 = .inl (cI, 122, .inl mn)) {fi : Nat → Int32} (h15 : f 15 = .inl (cI, 122, .inl fi)) {pool : Nat → Int32} (h16 : f 16 = .inl (cC, 2000, .inl pool)) {tx : Nat → Int32} (h17 : f 17 = .inl (cC, 2000, .inl tx)) {way : Nat → Int32} (h18 : f 18 = .inl (cI, 122, .inl way)) (htx : zCh tx) (hpool : zCh pool) {par : Nat → Nat} {com : Nat → Bool} {tp tc : Nat → Nat} {tq : Nat → Nat → Int32} {tz : Nat → Nat} {tt : Nat → Nat → Int32} (T : zTree n par com tp tc tq tz tt) (M : zMT n par com tp tc tq pa co pl mn fi pool) (hth : th < n) (hn : n ≤ 122) : zC l y_O_make b_O_make 3 none (rmD 1 0 0) D (zty cI cC cZ cV) [.ref (q 10)] N q f (pV N q (fun f' => ∃ g w, f' 10 = zmo q n po th (tz th) ty ∧ f' 17 = .inl (cC, 2000, .inl g) ∧ f' 18 = .inl (cI, 122, .inl w) ∧ zCh g ∧ (∀ j, j < tz th → g j = tt th j) ∧ ∀ jj, jj ≠ 10 → jj ≠ 17 → jj ≠ 18 → f' jj = f jj)) := by
  refine zC.of (by decide) (by simp [Value.category]) (Nat.le_of_ble_eq_true rfl) (fun G X Y => ?_)
  show G 0 0 0 [some (.ref (q 10)), none, none] [] N q f
  have loop2 : ∀ (m : Nat) (w : Nat → Int32), m < 122 → (∀ k, k < m → w k = nI (zit par th k) ∧ 0 < zit par th k ∧ zit par th k < n) → ∀ (i : Nat) (F : zF) (g : Nat → Int32), i ≤ m → F 10 = zmo q n po th (tz (zit par th i)) ty → F 17 = .inl (cC, 2000, .inl g) → zCh g → (∀ j, j < tz (zit par th i) → g j = tt (zit par th i) j) → F 18 = .inl (cI, 122, .inl w) → (∀ jj, jj ≠ 10 → jj ≠ 17 → jj ≠ 18 → F jj = f jj) → G 0 0 40 [some (.ref (q 10)), some (.int (nI m)), some (.int (nI i - 1))] [] N q F := by
    intro m w hm hw i
    induction i with
    | zero =>
      intro F g hi hF10 hF17 hg hgt hF18 hF
      show G 0 0 40 [some (.ref (q 10)), some (.int (nI m)), some (.int (nI 0 - 1))] [] N q F
      refine zr_iload_n X d_O_make_40 rfl ?_
      refine zr_if_ltt (tgt := 87) X d_O_make_41 rfl (by decide) ?_
      refine zr_return Y d_O_make_87 (Nat.le_of_ble_eq_true rfl) (Nat.le_of_ble_eq_true rfl) ?_
      exact ⟨rfl, rfl, rfl, g, w, hF10, hF17, hF18, hg, hgt, hF⟩
    | succ i ih =>
      intro F g hi hF10 hF17 hg hgt hF18 hF
      rw [nI_pred i]
      obtain ⟨hw1, hw2, hw3⟩ := hw i (by omega)
      have hF11 : F 11 = .inl (cI, 122, .inl pa) := (hF 11 (by decide) (by decide) (by decide)).trans h11
      have hF12 : F 12 = .inl (cZ, 122, .inl co) := (hF 12 (by decide) (by decide) (by decide)).trans h12
      have hF13 : F 13 = .inl (cI, 122, .inl pl) := (hF 13 (by decide) (by decide) (by decide)).trans h13
      have hF14 : F 14 = .inl (cI, 122, .inl mn) := (hF 14 (by decide) (by decide) (by decide)).trans h14
      have hF15 : F 15 = .inl (cI, 122, .inl fi) := (hF 15 (by decide) (by decide) (by decide)).trans h15
      have hF16 : F 16 = .inl (cC, 2000, .inl pool) := (hF 16 (by decide) (by decide) (by decide)).trans h16
      obtain ⟨hM1, hM2, hM3, hM4, hM5⟩ := M _ hw2 hw3
      have hk := T.ok hw2 hw3
      have hs := T.sz hw2 hw3
      have h2k := T.2.1 _ hw3
      have hon := fun gp => T.on hw2 hw3 (tx := g) (gp := gp)
      rw [← zit_succ (par := par) (v := th) (k := i)] at hk hs hon
      cases hb : com (zit par th i) with
      | true =>
        rw [hb] at hk hs hM2 hM5 hon
        have hk : tp (zit par th i) ≤ tz (zit par th (i + 1)) ∧ tz (zit par th (i + 1)) + tc (zit par th i) ≤ 2000 := hk
        have hs : tz (zit par th i) = tz (zit par th (i + 1)) + tc (zit par th i) := hs
        obtain ⟨a, ha, hac, hpp⟩ := hM5 rfl
        show G 0 0 40 [some (.ref (q 10)), some (.int (nI m)), some (.int (nI i))] [] N q F
        refine zr_iload_n X d_O_make_40 rfl ?_
        refine zr_if_ltf (tgt := 87) X d_O_make_41 rfl (nI_pos (by omega)) ?_
        refine zr_aload_n X d_O_make_44 rfl ?_
        refine zr_get X F_O_17 d_O_make_45 (by omega) hF10 (v := .ref (q 12)) rfl ?_
        refine zr_aload_n X d_O_make_48 rfl ?_
        refine zr_get X F_O_37 d_O_make_49 (by omega) hF10 (v := .ref (q 18)) rfl ?_
        refine zr_iload_n X d_O_make_52 rfl ?_
        refine zr_iaload (v := nI (zit par th i)) X 0 d_O_make_53 (by omega) hF18 rfl (by omega) (by decide) hw1 ?_
        refine zr_baload (v := zbi true) X 2 d_O_make_54 (by omega) hF12 rfl (by omega) (by decide) hM2 ?_
        refine zr_if_eqf (tgt := 71) X d_O_make_55 rfl (by decide) ?_
        refine zr_aload_n X d_O_make_58 rfl ?_
        refine zr_aload_n X d_O_make_59 rfl ?_
        refine zr_get X F_O_37 d_O_make_60 (by omega) hF10 (v := .ref (q 18)) rfl ?_
        refine zr_iload_n X d_O_make_63 rfl ?_
        refine zr_iaload (v := nI (zit par th i)) X 0 d_O_make_64 (by omega) hF18 rfl (by omega) (by decide) hw1 ?_
        refine zr_callV X K_O_65 KI_O_65 KS_O_65 (c_O_bring hN hF10 hF13 hF14 hF15 hF16 hF17 hg hpool (by omega) hM3 hM4 ha hk.1 hk.2 hac) d_O_make_65 (by omega) hF10 rfl rfl (by decide) (Nat.le_of_ble_eq_true rfl) (by decide) (st := []) rfl (kW ?_)
        show G 0 0 68 [some (.ref (q 10)), some (.int (nI m)), some (.int (nI i))] [] N q (va_up (va_up F 17 (.inl (cC, 2000, .inl (va_cpy pool (va_cpy g g (tp (zit par th i)) (tp (zit par th i) + tc (zit par th i)) (tz (zit par th (i + 1)) - tp (zit par th i))) a (tp (zit par th i)) (tc (zit par th i)))))) 10 (.inr (iO, [.int (nI n), .ref (q 11), .ref (q 12), .ref (q 13), .ref (q 14), .ref (q 15), .int (nI po), .ref (q 16), .int (nI th), .int (nI (tz (zit par th (i + 1)) + tc (zit par th i))), .ref (q 17), .ref (q 18), .int (nI ty), .ref (q 19), .ref (q 20), .ref (q 21), .ref (q 22)])))
        refine zr_goto (tgt := 81) X d_O_make_68 rfl ?_
        refine zr_iinc (v := nI i - 1) (lv' := [some (.ref (q 10)), some (.int (nI m)), some (.int (nI i - 1))]) X d_O_make_81 rfl (z_dec _) (by decide) rfl ?_
        refine zr_goto (tgt := 40) X d_O_make_84 rfl ?_
        refine ih _ _ (by omega) (up_eq.trans (by rw [hs])) (up_ne (by decide) up_eq) (zCh.cpy hpool (zCh.cpy hg hg)) (fun j hj => ?_) (up_ne (by decide) (up_ne (by decide) hF18)) (fun jj k1 k2 k3 => (up_ne k1 (up_ne k2 (hF jj k1 k2 k3))))
        have h9 := hon (fun i => pool (a + i)) hgt (fun _ => hpp) j hj
        rw [z_pool]
        exact h9
      | false =>
        rw [hb] at hk hs hM2 hM5 hon
        have hk : tp (zit par th i) + tc (zit par th i) ≤ tz (zit par th (i + 1)) ∧ tz (zit par th (i + 1)) ≤ 2000 := hk
        have hs : tz (zit par th i) = tz (zit par th (i + 1)) - tc (zit par th i) := hs
        show G 0 0 40 [some (.ref (q 10)), some (.int (nI m)), some (.int (nI i))] [] N q F
        refine zr_iload_n X d_O_make_40 rfl ?_
        refine zr_if_ltf (tgt := 87) X d_O_make_41 rfl (nI_pos (by omega)) ?_
        refine zr_aload_n X d_O_make_44 rfl ?_
        refine zr_get X F_O_17 d_O_make_45 (by omega) hF10 (v := .ref (q 12)) rfl ?_
        refine zr_aload_n X d_O_make_48 rfl ?_
        refine zr_get X F_O_37 d_O_make_49 (by omega) hF10 (v := .ref (q 18)) rfl ?_
        refine zr_iload_n X d_O_make_52 rfl ?_
        refine zr_iaload (v := nI (zit par th i)) X 0 d_O_make_53 (by omega) hF18 rfl (by omega) (by decide) hw1 ?_
        refine zr_baload (v := zbi false) X 2 d_O_make_54 (by omega) hF12 rfl (by omega) (by decide) hM2 ?_
        refine zr_if_eqt (tgt := 71) X d_O_make_55 rfl (by decide) ?_
        refine zr_aload_n X d_O_make_71 rfl ?_
        refine zr_aload_n X d_O_make_72 rfl ?_
        refine zr_get X F_O_37 d_O_make_73 (by omega) hF10 (v := .ref (q 18)) rfl ?_
        refine zr_iload_n X d_O_make_76 rfl ?_
        refine zr_iaload (v := nI (zit par th i)) X 0 d_O_make_77 (by omega) hF18 rfl (by omega) (by decide) hw1 ?_
        refine zr_callV X K_O_69 KI_O_69 KS_O_69 (c_O_take hN hF10 hF13 hF14 hF17 hg (by omega) hM3 hM4 hk.1 hk.2) d_O_make_78 (by omega) hF10 rfl rfl (by decide) (Nat.le_of_ble_eq_true rfl) (by decide) (st := []) rfl (kW ?_)
        show G 0 0 81 [some (.ref (q 10)), some (.int (nI m)), some (.int (nI i))] [] N q (va_up (va_up F 10 (.inr (iO, [.int (nI n), .ref (q 11), .ref (q 12), .ref (q 13), .ref (q 14), .ref (q 15), .int (nI po), .ref (q 16), .int (nI th), .int (nI (tz (zit par th (i + 1)) - tc (zit par th i))), .ref (q 17), .ref (q 18), .int (nI ty), .ref (q 19), .ref (q 20), .ref (q 21), .ref (q 22)]))) 17 (.inl (cC, 2000, .inl (va_cpy g g (tp (zit par th i) + tc (zit par th i)) (tp (zit par th i)) (tz (zit par th (i + 1)) - tc (zit par th i) - tp (zit par th i))))))
        refine zr_iinc (v := nI i - 1) (lv' := [some (.ref (q 10)), some (.int (nI m)), some (.int (nI i - 1))]) X d_O_make_81 rfl (z_dec _) (by decide) rfl ?_
        refine zr_goto (tgt := 40) X d_O_make_84 rfl ?_
        refine ih _ _ (by omega) (up_ne (by decide) (up_eq.trans (by rw [hs]))) up_eq (zCh.cpy hg hg) (fun j hj => ?_) (up_ne (by decide) (up_ne (by decide) hF18)) (fun jj k1 k2 k3 => (up_ne k2 (up_ne k1 (hF jj k1 k2 k3))))
        have h9 := hon tx hgt (fun h8 => by cases h8) j hj
        rw [show tz (zit par th (i + 1)) - tc (zit par th i) - tp (zit par th i) = tz (zit par th (i + 1)) - (tp (zit par th i) + tc (zit par th i)) by omega]
        exact h9
  have loop1 : ∀ (d i : Nat) (w : Nat → Int32), zit par th i ≤ d → i + zit par th i ≤ th → (∀ k, k < i → w k = nI (zit par th k) ∧ 0 < zit par th k ∧ zit par th k < n) → G 0 0 7 [some (.ref (q 10)), some (.int (nI i)), some (.int (nI (zit par th i)))] [] N q (va_up f 18 (.inl (cI, 122, .inl w))) := by
    intro d
    induction d with
    | zero =>
      intro i w hd hb hw
      have hz : zit par th i = 0 := by omega
      show G 0 0 7 [some (.ref (q 10)), some (.int (nI i)), some (.int (nI (zit par th i)))] [] N q (va_up f 18 (.inl (cI, 122, .inl w)))
      refine zr_iload_n X d_O_make_7 rfl ?_
      refine zr_if_let (tgt := 31) X d_O_make_8 rfl (by rw [hz]; decide) ?_
      refine zr_aload_n X d_O_make_31 rfl ?_
      refine zr_iconst (v := nI 0) X d_O_make_32 (by decide) ?_
      refine zr_put (fs' := [.int (nI n), .ref (q 11), .ref (q 12), .ref (q 13), .ref (q 14), .ref (q 15), .int (nI po), .ref (q 16), .int (nI th), .int (nI 0), .ref (q 17), .ref (q 18), .int (nI ty), .ref (q 19), .ref (q 20), .ref (q 21), .ref (q 22)]) X F_O_55 d_O_make_33 (by omega) (up_ne (by decide) h10) rfl rfl (Nat.le_of_ble_eq_true rfl) rfl ?_
      refine zr_iload_n X d_O_make_36 rfl ?_
      refine zr_iconst (v := nI 1) X d_O_make_37 (by decide) ?_
      refine zr_isub (z := nI i - 1) X d_O_make_38 rfl ?_
      refine zr_istore_n (lv' := [some (.ref (q 10)), some (.int (nI i)), some (.int (nI i - 1))]) X d_O_make_39 (by decide) rfl ?_
      refine loop2 i w (by omega) (fun k hk => ⟨(hw k hk).1, (hw k hk).2.1, (hw k hk).2.2⟩) i _ tx (Nat.le_refl _) (up_eq.trans (by rw [hz, T.1])) (up_ne (by decide) (up_ne (by decide) h17)) htx (fun j hj => ?_) (up_ne (by decide) up_eq) (fun jj k1 k2 k3 => up_ne k1 (up_ne k3 rfl))
      rw [hz, T.1] at hj
      exact absurd hj (Nat.not_lt_zero _)
    | succ d ih =>
      intro i w hd hb hw
      by_cases hz : zit par th i = 0
      · skip
        show G 0 0 7 [some (.ref (q 10)), some (.int (nI i)), some (.int (nI (zit par th i)))] [] N q (va_up f 18 (.inl (cI, 122, .inl w)))
        refine zr_iload_n X d_O_make_7 rfl ?_
        refine zr_if_let (tgt := 31) X d_O_make_8 rfl (by rw [hz]; decide) ?_
        refine zr_aload_n X d_O_make_31 rfl ?_
        refine zr_iconst (v := nI 0) X d_O_make_32 (by decide) ?_
        refine zr_put (fs' := [.int (nI n), .ref (q 11), .ref (q 12), .ref (q 13), .ref (q 14), .ref (q 15), .int (nI po), .ref (q 16), .int (nI th), .int (nI 0), .ref (q 17), .ref (q 18), .int (nI ty), .ref (q 19), .ref (q 20), .ref (q 21), .ref (q 22)]) X F_O_55 d_O_make_33 (by omega) (up_ne (by decide) h10) rfl rfl (Nat.le_of_ble_eq_true rfl) rfl ?_
        refine zr_iload_n X d_O_make_36 rfl ?_
        refine zr_iconst (v := nI 1) X d_O_make_37 (by decide) ?_
        refine zr_isub (z := nI i - 1) X d_O_make_38 rfl ?_
        refine zr_istore_n (lv' := [some (.ref (q 10)), some (.int (nI i)), some (.int (nI i - 1))]) X d_O_make_39 (by decide) rfl ?_
        refine loop2 i w (by omega) (fun k hk => ⟨(hw k hk).1, (hw k hk).2.1, (hw k hk).2.2⟩) i _ tx (Nat.le_refl _) (up_eq.trans (by rw [hz, T.1])) (up_ne (by decide) (up_ne (by decide) h17)) htx (fun j hj => ?_) (up_ne (by decide) up_eq) (fun jj k1 k2 k3 => up_ne k1 (up_ne k3 rfl))
        rw [hz, T.1] at hj
        exact absurd hj (Nat.not_lt_zero _)
      · skip
        have hz2 : 0 < zit par th i := by omega
        have hz3 : zit par th i < n := by omega
        have hlt := T.lt hz2 hz3
        rw [← zit_succ (par := par) (v := th) (k := i)] at hlt
        show G 0 0 7 [some (.ref (q 10)), some (.int (nI i)), some (.int (nI (zit par th i)))] [] N q (va_up f 18 (.inl (cI, 122, .inl w)))
        refine zr_iload_n X d_O_make_7 rfl ?_
        refine zr_if_lef (tgt := 31) X d_O_make_8 rfl (nI_nle hz2 (by omega)) ?_
        refine zr_aload_n X d_O_make_11 rfl ?_
        refine zr_get X F_O_37 d_O_make_12 (by omega) (up_ne (by decide) h10) (v := .ref (q 18)) rfl ?_
        refine zr_iload_n X d_O_make_15 rfl ?_
        refine zr_iload_n X d_O_make_16 rfl ?_
        refine zr_iastore X 0 d_O_make_17 (by omega) up_eq rfl (by omega) (by decide) ?_
        refine zr_iinc (v := nI (i + 1)) (lv' := [some (.ref (q 10)), some (.int (nI (i + 1))), some (.int (nI (zit par th i)))]) X d_O_make_18 rfl (nI_1 _) (by decide) rfl ?_
        refine zr_aload_n X d_O_make_21 rfl ?_
        refine zr_get X F_O_13 d_O_make_22 (by omega) (up_ne (by decide) (up_ne (by decide) h10)) (v := .ref (q 11)) rfl ?_
        refine zr_iload_n X d_O_make_25 rfl ?_
        refine zr_iaload (v := nI (zit par th (i + 1))) X 0 d_O_make_26 (by omega) (up_ne (by decide) (up_ne (by decide) h11)) rfl (by omega) (by decide) (M _ hz2 hz3).1 ?_
        refine zr_istore_n (lv' := [some (.ref (q 10)), some (.int (nI (i + 1))), some (.int (nI (zit par th (i + 1))))]) X d_O_make_27 (by decide) rfl ?_
        refine zr_goto (tgt := 7) X d_O_make_28 rfl ?_
        rw [bx_uu]
        refine ih (i + 1) _ (by omega) (by omega) (fun k hk => ?_)
        by_cases hk2 : k = i
        · rw [hk2]
          exact ⟨pk_us, hz2, hz3⟩
        · exact ⟨(pk_un hk2).trans (hw k (by omega)).1, (hw k (by omega)).2⟩
  refine zr_iconst (v := nI 0) X d_O_make_0 (by decide) ?_
  refine zr_istore_n (lv' := [some (.ref (q 10)), some (.int (nI 0)), none]) X d_O_make_1 (by decide) rfl ?_
  refine zr_aload_n X d_O_make_2 rfl ?_
  refine zr_get X F_O_62 d_O_make_3 (by omega) h10 (v := .int (nI th)) rfl ?_
  refine zr_istore_n (lv' := [some (.ref (q 10)), some (.int (nI 0)), some (.int (nI th))]) X d_O_make_6 (by decide) rfl ?_
  have h9 := loop1 th 0 way (Nat.le_refl _) (by show 0 + th ≤ th; omega) (fun k hk => absurd hk (Nat.not_lt_zero _))
  rw [up_self h18] at h9
  exact h9
