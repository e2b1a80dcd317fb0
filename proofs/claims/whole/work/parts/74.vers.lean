section ZV
variable {l : Launch} {D : va_G} {cI cC cZ cV : ClassId} {N : Nat} {q : Nat → Nat} {f : zF} {n ins u : Nat} {par : Nat → Nat} {com : Nat → Bool} {tp tc : Nat → Nat} {tq : Nat → Nat → Int32} {tz : Nat → Nat} {tt : Nat → Nat → Int32} {cn : Nat → Nat} {lat : Nat → Value} {mp mr : Nat → Int32}
theorem c_B_undoV (hNn : 23 + 2 * n ≤ N) (Cu : zCur cC cI q n ins u tz tt mp f) (h5 : f 5 = .inr (iM, [.ref (q 6), .ref (q 7)])) (h7 : f 7 = .inl (cZ, 6, .inl mr)) (V : zVs cC q f n par com tp tc tq cn lat) (T : zTree n par com tp tc tq tz tt) (hu0 : 0 < u) (hu : u < n) : zC l y_B_undo b_B_undo 2 (some .int) (rmD 4 0 0) D (zty cI cC cZ cV) [.ref (q 0)] N q f (fun v N' q' f' => v = some (.int (nI (par u))) ∧ N' = N ∧ q' = q ∧ zCur cC cI q n ins (par u) tz tt (zoM (!(com u)) (tp u) (tc u) mp mr) f' ∧ ∀ jj, jj ≠ 0 → jj ≠ 1 → jj ≠ 2 → jj ≠ 6 → f' jj = f jj) := by
  obtain ⟨h0, h1, ⟨tx, h2, htx, hag⟩, h6⟩ := Cu
  obtain ⟨k1, k2, k3⟩ := T.back hu0 hu
  have hlt := T.lt hu0 hu
  refine zC.imp (c_B_undo_y (by omega) h0 h1 h2 h5 h6 h7 (jp := 23 + 2 * u) (by omega) (by omega) (V u hu).2.1 htx (V u hu).2.2 (by omega) (by omega) (V.par hu0 hu) k1 (by omega) (by omega) (V (par u) (by omega)).1) ?_
  rintro v N' q' f' ⟨rfl, rfl, rfl, rfl⟩
  refine ⟨rfl, rfl, rfl, ⟨up_eq, ?_, ⟨_, ?_, ?_, k3 tx hag⟩, ?_⟩, fun jj a b c d => up_ne a (up_ne d (up_ne b (up_ne c rfl)))⟩
  · rw [← k2]
    exact up_ne (by decide) (up_ne (by decide) up_eq)
  · exact up_ne (by decide) (up_ne (by decide) (up_ne (by decide) up_eq))
  · unfold zoT
    split
    · exact zCh.cpy (V u hu).2.2 (zCh.cpy htx htx)
    · exact zCh.cpy htx htx
  · exact up_ne (by decide) up_eq
theorem c_B_redoV (hNn : 23 + 2 * n ≤ N) {w : Nat} (Cu : zCur cC cI q n ins (par w) tz tt mp f) (h5 : f 5 = .inr (iM, [.ref (q 6), .ref (q 7)])) (h7 : f 7 = .inl (cZ, 6, .inl mr)) (V : zVs cC q f n par com tp tc tq cn lat) (T : zTree n par com tp tc tq tz tt) (hw0 : 0 < w) (hw : w < n) (hl : lat (par w) = .ref (q (24 + 2 * w))) : zC l y_B_redo b_B_redo 2 (some .int) (rmD 4 0 0) D (zty cI cC cZ cV) [.ref (q 0)] N q f (fun v N' q' f' => v = some (.int (nI w)) ∧ N' = N ∧ q' = q ∧ zCur cC cI q n ins w tz tt (zoM (com w) (tp w) (tc w) mp mr) f' ∧ ∀ jj, jj ≠ 0 → jj ≠ 1 → jj ≠ 2 → jj ≠ 6 → f' jj = f jj) := by
  obtain ⟨h0, h1, ⟨tx, h2, htx, hag⟩, h6⟩ := Cu
  have hlt := T.lt hw0 hw
  have hv := (V (par w) (by omega)).1
  rw [hl] at hv
  refine zC.imp (c_B_redo_y (by omega) h0 h1 h2 h5 h6 h7 (jp := 23 + 2 * w) (by omega) (by omega) (V w hw).2.1 htx (V w hw).2.2 (by omega) (by omega) hv (by omega) (by omega) (V.par hw0 hw) (T.ok hw0 hw)) ?_
  rintro v N' q' f' ⟨rfl, rfl, rfl, rfl⟩
  refine ⟨rfl, rfl, rfl, ⟨up_eq, ?_, ⟨_, ?_, ?_, T.on hw0 hw hag (fun _ i _ => rfl)⟩, ?_⟩, fun jj a b c d => up_ne a (up_ne d (up_ne b (up_ne c rfl)))⟩
  · rw [T.sz hw0 hw]
    exact up_ne (by decide) (up_ne (by decide) up_eq)
  · exact up_ne (by decide) (up_ne (by decide) (up_ne (by decide) up_eq))
  · unfold zoT
    split
    · exact zCh.cpy (V w hw).2.2 (zCh.cpy htx htx)
    · exact zCh.cpy htx htx
  · exact up_ne (by decide) up_eq
end ZV
