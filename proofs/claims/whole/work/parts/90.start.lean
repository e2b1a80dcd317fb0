def zg : Nat → Nat := fun i => [0, 1, 2, 3, 4, 5, 6, 7, 8, 9, 12, 13, 14, 15, 16, 17, 18, 19, 20, 21, 22, 23, 24, 11, 10].getD i 0
theorem zg_lt : ∀ i, i < 25 → zg i < 25 := by decide
theorem zg_in0 : ∀ i, i < 25 → ∀ j, j < 25 → zg i = zg j → i = j := by decide +kernel
theorem zg_inj : ∀ i j, i < 25 → j < 25 → zg i = zg j → i = j := fun i j hi hj h => zg_in0 i hi j hj h
/-- the two objects as they are made -/
theorem zInv_start {cI cC cZ cV : ClassId} {q : Nat → Nat} {f : zF} (p0 : f 0 = zbo q 1 0 10) (p1 : f 1 = zrow q 2 0) (p2 : f 2 = .inl (cC, 2000, .inl (fun _ => 0))) (p3 : f 3 = zrow q 4 0) (p4 : f 4 = .inl (cC, 40, .inl (fun _ => 0))) (p5 : f 5 = .inr (iM, [.ref (q 6), .ref (q 7)])) (p6 : f 6 = .inl (cI, 6, .inl (zst 6 (fun _ => -1) (fun _ => 0)))) (p7 : f 7 = .inl (cZ, 6, .inl (fun _ => 0))) (p8 : f 8 = .inl (cV, 122, .inr (.inr (.inr (.inr (va_up (fun _ => none) 0 (some (q 10)))))))) (p9 : f 9 = .inl (cV, 122, .inr (.inr (.inr (.inr (fun _ => none)))))) (p10 : f 10 = zver q 0 .null (zbi false) 0 11 0 .null) (p11 : f 11 = .inl (cC, 0, .inl (fun _ => 0)))
    (m0 : f 12 = .inr (iO, [.int (nI 1), .ref (q 13), .ref (q 14), .ref (q 15), .ref (q 16), .ref (q 17), .int 0, .ref (q 18), .int 0, .int 0, .ref (q 19), .ref (q 20), .int 0, .ref (q 21), .ref (q 22), .ref (q 23), .ref (q 24)])) (m1 : f 13 = .inl (cI, 122, .inl (upd (fun _ => 0) 0 (-1)))) (m2 : f 14 = .inl (cZ, 122, .inl (fun _ => 0))) (m3 : f 15 = .inl (cI, 122, .inl (fun _ => 0))) (m4 : f 16 = .inl (cI, 122, .inl (fun _ => 0))) (m5 : f 17 = .inl (cI, 122, .inl (fun _ => 0))) (m6 : f 18 = .inl (cC, 2000, .inl (fun _ => 0))) (m7 : f 19 = .inl (cC, 2000, .inl (fun _ => 0))) (m8 : f 20 = .inl (cI, 122, .inl (fun _ => 0))) (m9 : f 21 = .inl (cC, 40, .inl (fun _ => 0))) (m10 : f 22 = .inl (cZ, 6, .inl (fun _ => 0))) (m11 : f 23 = .inl (cI, 6, .inl (fun _ => 0))) (m12 : f 24 = .inl (cZ, 6, .inl (fun _ => 0))) : zInv cI cC cZ cV 25 (fun i => q (zg i)) (fun i => f (zg i)) := by
  have e0 : (0 : Int32) = nI 0 := nI_0.symm
  refine ⟨1, 0, 0, 0, fun _ => 0, fun _ => false, fun _ => 0, fun _ => 0, fun _ _ => 0, fun _ => 0, fun _ _ => 0, fun _ => 0, fun _ => .null, zst 6 (fun _ => -1) (fun _ => 0), fun _ => 0, fun _ => 0, upd (fun _ => 0) 0 (-1), fun _ => 0, fun _ => 0, fun _ => 0, fun _ => 0, ?_, ?_, ?_⟩
  · refine ⟨rfl, ⟨p0, p1, ⟨fun _ => 0, p2, zCh.z, fun i hi => rfl⟩, p6⟩, p3, p4, zCh.z, p5, p7, ⟨_, p8, fun v hv => ?_⟩, ⟨_, p9⟩, fun v hv => ?_⟩
    · rw [show v = 0 by omega]
      exact up_eq
    · rw [show v = 0 by omega]
      exact ⟨p10, p11, zCh.z⟩
  · refine ⟨?_, m1, m9, zCh.z, m10, m11, m12, _, _, _, _, _, _, _, m2, m3, m4, m5, m6, m7, m8, fun v h0 hv => by omega, fun v h0 hv => by omega, zCh.z, zCh.z, fun j hj => rfl⟩
    rw [e0] at m0
    exact m0
  · refine ⟨Nat.le_refl _, by omega, by omega, by omega, by omega, rfl, ⟨rfl, fun v hv => Nat.zero_le _, fun v h0 hv => by omega⟩, fun v hv => Nat.le_refl _, fun v hv => ?_, fun i hi => absurd hi (Nat.not_lt_zero _), fun m hm => ⟨0, Nat.le_refl _, e0, Or.inr ⟨e0, ?_⟩⟩, fun m hm => rfl⟩
    · rw [zcc_1, zlt_1]
      exact ⟨rfl, rfl⟩
    · unfold zst
      rw [if_pos hm]
set_option maxRecDepth 100000 in
set_option maxHeartbeats 4000000 in
theorem L_start {G : zT} {l : Launch} {D : va_G} {cI cC cZ cV : ClassId} {nm : String} {bs L : Nat} {xs : Nat → Int32} (X : zOK G l room_1 code 4 R_L nm D (zty cI cC cZ cV)) (S : zLW G bs L xs) (hL : L ≤ 2048) {q : Nat → Nat} {f : zF} : G 0 0 0 [some (.ref bs), none, none, none] [] 0 q f := by
  refine zr_new X NW_L_7 d_L_law_0 (by decide) (by decide) (fun a1 => ?_)
  have e1 : a1 = (va_up q 0 a1) 0 := by rw [up_eq]
  generalize hq1 : va_up q 0 a1 = q1 at e1 ⊢
  rw [e1]
  show G (0 + 1) (0 + 8) 3 [some (.ref bs), none, none, none] [.ref (q1 0)] 1 q1 (va_up f 0 (.inr (iB, [.null, .null, .null, .null, .null, .int 0, .int 0, .null])))
  refine zr_dup X d_L_law_3 rfl ?_
  refine zr_callI X K_L_9 KI_L_9 rfl (c_B_init up_eq) d_L_law_4 rfl (by decide) (Nat.le_of_ble_eq_true rfl) (by decide) (st := [.ref (q1 0)]) rfl (fun v9 N9 q9 f9 hr9 => ?_)
  obtain ⟨rfl, rfl, hq9, p0, p1, p2, p3, p4, p5, p6, p7, p8, p9, p10, p11⟩ := hr9
  rw [← hq9]
  show G (0 + 1 + 11) (0 + 8 + 4269) 7 [some (.ref bs), none, none, none] [.ref (q9 0)] 12 q9 f9
  refine zr_astore_n (lv' := [some (.ref bs), some (.ref (q9 0)), none, none]) X d_L_law_7 (by decide) rfl ?_
  refine zr_new X NW_L_10 d_L_law_8 (by decide) (by decide) (fun a2 => ?_)
  have e2 : a2 = (va_up q9 12 a2) 12 := by rw [up_eq]
  have e3 : ∀ j, j < 12 → q9 j = (va_up q9 12 a2) j := fun j hj => by rw [up_ne' (by omega)]
  generalize hq2 : va_up q9 12 a2 = q2 at e2 e3 ⊢
  rw [e2, e3 0 (by omega)]
  show G (0 + 1 + 11 + 1) (0 + 8 + 4269 + 17) 11 [some (.ref bs), some (.ref (q2 0)), none, none] [.ref (q2 12)] 13 q2 (va_up f9 12 (.inr (iO, [.int 0, .null, .null, .null, .null, .null, .int 0, .null, .int 0, .int 0, .null, .null, .int 0, .null, .null, .null, .null])))
  refine zr_dup X d_L_law_11 rfl ?_
  refine zr_callI X K_L_12 KI_L_12 rfl (c_O_init up_eq) d_L_law_12 rfl (by decide) (Nat.le_of_ble_eq_true rfl) (by decide) (st := [.ref (q2 12)]) rfl (fun v8 N8 q8 f8 hr8 => ?_)
  obtain ⟨rfl, rfl, hq8, m0, m1, m2, m3, m4, m5, m6, m7, m8, m9, m10, m11, m12, mf⟩ := hr8
  rw [← hq8 12 (by omega), ← hq8 0 (by omega)]
  show G (0 + 1 + 11 + 1 + 12) (0 + 8 + 4269 + 17 + 4790) 15 [some (.ref bs), some (.ref (q8 0)), none, none] [.ref (q8 12)] 25 q8 f8
  refine zr_astore_n (lv' := [some (.ref bs), some (.ref (q8 0)), some (.ref (q8 12)), none]) X d_L_law_15 (by decide) rfl ?_
  refine zr_iconst (v := nI 0) X d_L_law_16 (by decide) ?_
  refine zr_istore_n (lv' := [some (.ref bs), some (.ref (q8 0)), some (.ref (q8 12)), some (.int (nI 0))]) X d_L_law_17 (by decide) rfl ?_
  have ff : ∀ jj, jj < 12 → f8 jj = f9 jj := fun jj hj => (mf jj hj).trans (up_ne' (by omega))
  have qq : ∀ jj, jj < 12 → q9 jj = q8 jj := fun jj hj => (e3 jj hj).trans (hq8 jj (by omega)).symm
  simp only [zbo, zrow, zver, qq 1 (by omega), qq 2 (by omega), qq 3 (by omega), qq 4 (by omega), qq 5 (by omega), qq 6 (by omega), qq 7 (by omega), qq 8 (by omega), qq 9 (by omega), qq 10 (by omega), qq 11 (by omega)] at p0 p1 p3 p5 p8 p10
  refine zr_perm X zg zg_lt zg_inj ?_
  exact L_loop X S hL 512 0 25 9084 25 (fun i => q8 (zg i)) (fun i => f8 (zg i)) (by omega) (by omega) (by omega) (by omega) (zInv_start ((ff 0 (by omega)).trans p0) ((ff 1 (by omega)).trans p1) ((ff 2 (by omega)).trans p2) ((ff 3 (by omega)).trans p3) ((ff 4 (by omega)).trans p4) ((ff 5 (by omega)).trans p5) ((ff 6 (by omega)).trans p6) ((ff 7 (by omega)).trans p7) ((ff 8 (by omega)).trans p8) ((ff 9 (by omega)).trans p9) ((ff 10 (by omega)).trans p10) ((ff 11 (by omega)).trans p11) m0 m1 m2 m3 m4 m5 m6 m7 m8 m9 m10 m11 m12)
theorem z_arr {s : State} {args : Array Value} {ty : FieldType} (h : (Cond.arrayClass ty).before args s = true) (hp : ∀ C, ty ≠ .object C) : ∃ cA : ClassId, ArrOfT s cA ty ∧ va_RA s cA ty := by
  obtain ⟨cA, kA, comp, f1, f2, f3⟩ := Cond.arrayClass_spec h
  refine ⟨cA, fun n z => ⟨fun k h => (by cases h), kA, f2, comp, f3⟩, ?_⟩
  cases ty with
  | object C => exact absurd rfl (hp C)
  | _ => exact f1
theorem z_over {s : State} {C : String} (h : va_AO C s) : ∃ cA : ClassId, ArrOfT s cA (.object C) ∧ va_RA s cA (.object C) := by
  obtain ⟨comp, cA, kA, f1, f2, f3, f4, f5⟩ := Cond.arrayOver_spec h
  exact ⟨cA, fun n z => ⟨fun k h => (by cases h), kA, f3, comp, f4⟩, kA, comp, f3, f4, f1, f5⟩
set_option maxHeartbeats 4000000 in
/-- from the entry, for every script of at most 2048 ints, the law comes to its end with true -/
theorem whole_start {p : Program} {e : Env} {s : State} {m : MethodId} {below : List Frame} {meth : Method} {c : Code} (l : Launch) {b L : Nat} {xs : Nat → Int32} (hL : L ≤ 2048) (C0 : lw_At p s m meth c b L xs) : W p l e room_1 s m #[Value.ref b] below meth c s.heap [] 0 0 (lw_Z below #[Value.ref b] s) (entryFrame m ([Value.ref b] : List Value).toArray 4) := by
  obtain ⟨hx, hb, hr, hml, hown, hts0, hX, hbl, hlk, -⟩ := C0
  have hts : ∀ w ∈ zAll, w.before #[Value.ref b] s = true := fun w h => hts0 w (zAll_in w h)
  have hAO : va_AO "BranchingText$Version" s := va_AO.of (hts0 (Cond.arrayOver (.object "BranchingText$Version")) (List.mem_append_right _ (List.mem_of_getElem? (i := 49) (by decide +kernel))))
  obtain ⟨cM, sM, kM⟩ := u_known hts u_M_in (hts (Cond.instantiable R_M 2) (zm 32 (by decide +kernel)))
  obtain ⟨cR, sR, kR⟩ := u_known hts u_R_in (hts (Cond.instantiable R_R 2) (zm 16 (by decide +kernel)))
  obtain ⟨cW, sW, kW⟩ := u_known hts u_V_in (hts (Cond.instantiable R_V 7) (zm 50 (by decide +kernel)))
  obtain ⟨cB, sB, kB⟩ := u_known hts u_B_in (hts (Cond.instantiable R_B 8) (zm 8 (by decide +kernel)))
  obtain ⟨cO, sO, kO⟩ := u_known hts u_O_in (hts (Cond.instantiable R_O 17) (zm 285 (by decide +kernel)))
  obtain ⟨cI, a1, a2⟩ := z_arr (hts _ W_arrI) (fun C h => by cases h)
  obtain ⟨cC, b1, b2⟩ := z_arr (hts _ W_arrC) (fun C h => by cases h)
  obtain ⟨cZ, d1, d2⟩ := z_arr (hts _ W_arrZ) (fun C h => by cases h)
  obtain ⟨cV, v1, v2⟩ := z_over hAO
  have hK : va_K ((fun i => [cM, cR, cW, cB, cO].getD i cM), (fun i => [sM, sR, sW, sB, sO].getD i sM)) zCl (zty cI cC cZ cV) s := by
    refine ⟨fun i x hi => ?_, fun i x hi => ?_⟩
    · match i, hi with
      | 0, hi => cases hi; exact kM
      | 1, hi => cases hi; exact kR
      | 2, hi => cases hi; exact kW
      | 3, hi => cases hi; exact kB
      | 4, hi => cases hi; exact kO
      | i + 5, hi => cases hi
    · match i, hi with
      | 0, hi => cases hi; exact ⟨a1, a2⟩
      | 1, hi => cases hi; exact ⟨b1, b2⟩
      | 2, hi => cases hi; exact ⟨d1, d2⟩
      | 3, hi => cases hi; exact ⟨v1, v2⟩
      | i + 4, hi => cases hi
  have hG := L_start (G := zgx p l e room_1 s m #[Value.ref b] below meth c ((fun i => [cM, cR, cW, cB, cO].getD i cM), (fun i => [sM, sR, sW, sB, sO].getD i sM)) (fun q => s.heap.size ≤ q) (lw_Z below #[Value.ref b] s) 4) (l := l) (nm := meth.name) (q := fun _ => 0) (f := fun _ => .inr (0, []))
    ⟨p, e, s, m, #[Value.ref b], below, meth, c, _, _, rfl, hx, hb, hml, hown, hts, hK, fun q h => h, rfl, hAO⟩
    ⟨p, l, e, s, m, below, meth, c, _, rfl, hx, hb, hr, hlk, hX, hbl⟩ hL
  rw [lg_entry_eq]
  exact hG s.heap [] _ (zlv.entry (by simp [Value.category]) (Nat.le_of_ble_eq_true rfl)) (fun i x h => by simp [zl] at h) ⟨fun i j x y h => by simp [zl] at h, fun i x h => by simp [zl] at h⟩ va_S.rf
