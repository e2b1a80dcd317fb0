section ZIt
variable {n : Nat} {par : Nat → Nat}
theorem zit_step (hp : ∀ v, 0 < v → v < n → par v < v) (h0 : par 0 = 0) {v : Nat} (hv : v < n) : ∀ k, zit par v (k + 1) ≤ zit par v k ∧ zit par v k < n
  | 0 => by
    refine ⟨?_, hv⟩
    show par v ≤ v
    by_cases h : v = 0
    · rw [h, h0]; exact Nat.le_refl _
    · exact Nat.le_of_lt (hp v (by omega) hv)
  | k + 1 => by
    have ih := zit_step hp h0 hv k
    have h1 : zit par v (k + 1) < n := by omega
    refine ⟨?_, h1⟩
    show par (zit par v (k + 1)) ≤ zit par v (k + 1)
    by_cases h : zit par v (k + 1) = 0
    · rw [h, h0]; exact Nat.le_refl _
    · exact Nat.le_of_lt (hp _ (by omega) h1)
theorem zit_mono (hp : ∀ v, 0 < v → v < n → par v < v) (h0 : par 0 = 0) {v : Nat} (hv : v < n) {j k : Nat} (h : j ≤ k) : zit par v k ≤ zit par v j := by
  induction h with
  | refl => exact Nat.le_refl _
  | step _ ih => exact Nat.le_trans (zit_step hp h0 hv _).1 ih
theorem zit_lt (hp : ∀ v, 0 < v → v < n → par v < v) (h0 : par 0 = 0) {v : Nat} (hv : v < n) (k : Nat) : zit par v k < n := (zit_step hp h0 hv k).2
/-- each step up from a version that isn't the root takes one off -/
theorem zit_down (hp : ∀ v, 0 < v → v < n → par v < v) (h0 : par 0 = 0) {v : Nat} (hv : v < n) : ∀ k, zit par v k = 0 ∨ zit par v k + k ≤ v
  | 0 => Or.inr (Nat.le_refl _)
  | k + 1 => by
    rcases zit_down hp h0 hv k with h | h
    · exact Or.inl (by show par (zit par v k) = 0; rw [h, h0])
    · by_cases h1 : zit par v k = 0
      · exact Or.inl (by show par (zit par v k) = 0; rw [h1, h0])
      · have h2 := hp (zit par v k) (by omega) (zit_lt hp h0 hv k)
        exact Or.inr (by show par (zit par v k) + (k + 1) ≤ v; omega)
theorem zit_root (hp : ∀ v, 0 < v → v < n → par v < v) (h0 : par 0 = 0) {v : Nat} (hv : v < n) : zit par v v = 0 := by
  rcases zit_down hp h0 hv v with h | h <;> omega
theorem zit_zero (h0 : par 0 = 0) {v j : Nat} (h : zit par v j = 0) : ∀ k, zit par v (j + k) = 0
  | 0 => h
  | k + 1 => by show par (zit par v (j + k)) = 0; rw [zit_zero h0 h k, h0]
/-- going from a to b: back so many steps, then on so many -/
def zWay (par : Nat → Nat) (a b kb ko : Nat) : Prop := zit par a kb = zit par b ko ∧ (∀ i, i < kb → ∀ k, zit par b k ≠ zit par a i) ∧ ∀ k, k < ko → zit par b k ≠ zit par a kb
theorem zWay_is (hp : ∀ v, 0 < v → v < n → par v < v) (h0 : par 0 = 0) {a b : Nat} (ha : a < n) (hb : b < n) : ∃ kb ko, zWay par a b kb ko := by
  obtain ⟨kb, ⟨k0, h1⟩, h2⟩ := pk_least (fun i => ∃ k, zit par b k = zit par a i) ⟨a, b, by rw [zit_root hp h0 ha, zit_root hp h0 hb]⟩
  obtain ⟨ko, h3, h4⟩ := pk_least (fun k => zit par b k = zit par a kb) ⟨k0, h1⟩
  exact ⟨kb, ko, h3.symm, fun i hi k h => h2 i hi ⟨k, h⟩, fun k hk => h4 k hk⟩
/-- as long as the way back isn't gone, no root: no more steps than a's number -/
theorem zWay.back (hp : ∀ v, 0 < v → v < n → par v < v) (h0 : par 0 = 0) {a b kb ko : Nat} (ha : a < n) (hb : b < n) (w : zWay par a b kb ko) {i : Nat} (hi : i < kb) : 0 < zit par a i := by
  by_cases h : zit par a i = 0
  · exact absurd (by rw [h, zit_root hp h0 hb]) (w.2.1 i hi b)
  · omega
theorem zWay.on (h0 : par 0 = 0) {a b kb ko : Nat} (w : zWay par a b kb ko) {k : Nat} (hk : k < ko) : 0 < zit par b k := by
  by_cases h : zit par b k = 0
  · have h1 := zit_zero h0 h (ko - k)
    rw [show k + (ko - k) = ko by omega] at h1
    exact absurd (h.trans (h1.symm.trans w.1.symm)) (w.2.2 k hk)
  · omega
theorem zWay.kb (hp : ∀ v, 0 < v → v < n → par v < v) (h0 : par 0 = 0) {a b kb ko : Nat} (ha : a < n) (hb : b < n) (w : zWay par a b kb ko) : kb ≤ a := by
  by_cases h : kb = 0
  · omega
  · have h1 := w.back hp h0 ha hb (i := kb - 1) (by omega)
    rcases zit_down hp h0 ha (kb - 1) with h2 | h2 <;> omega
theorem zWay.ko (hp : ∀ v, 0 < v → v < n → par v < v) (h0 : par 0 = 0) {a b kb ko : Nat} (hb : b < n) (w : zWay par a b kb ko) : ko ≤ b := by
  by_cases h : ko = 0
  · omega
  · have h1 := w.on h0 (k := ko - 1) (by omega)
    rcases zit_down hp h0 hb (ko - 1) with h2 | h2 <;> omega
/-- the class's walk: of two different versions on the two ways the greater one isn't where they meet -/
theorem zWay.gt (hp : ∀ v, 0 < v → v < n → par v < v) (h0 : par 0 = 0) {a b kb ko : Nat} (ha : a < n) (hb : b < n) (w : zWay par a b kb ko) {i j : Nat} (hi : i ≤ kb) (hj : j ≤ ko) : (zit par b j < zit par a i → i < kb) ∧ (zit par a i < zit par b j → j < ko) ∧ (zit par a i = zit par b j → i = kb ∧ j = ko) := by
  have m1 := zit_mono hp h0 ha hi
  have m2 := zit_mono hp h0 hb hj
  have e := w.1
  refine ⟨fun h => ?_, fun h => ?_, fun h => ?_⟩
  · by_cases h1 : i = kb
    · subst h1; omega
    · omega
  · by_cases h1 : j = ko
    · subst h1; omega
    · omega
  · have h1 : i = kb := by
      by_cases h1 : i = kb
      · exact h1
      · exact absurd h.symm (w.2.1 i (by omega) j)
    subst h1
    refine ⟨rfl, ?_⟩
    by_cases h2 : j = ko
    · exact h2
    · exact absurd h.symm (w.2.2 j (by omega))
end ZIt
/-- marks behind i steps back from a; behind k steps on of the last ko up to b -/
def zbks (par : Nat → Nat) (com : Nat → Bool) (tp tc : Nat → Nat) (a : Nat) (mr ma : Nat → Int32) : Nat → Nat → Int32
  | 0 => ma
  | i + 1 => zoM (!(com (zit par a i))) (tp (zit par a i)) (tc (zit par a i)) (zbks par com tp tc a mr ma i) mr
def zons (par : Nat → Nat) (com : Nat → Bool) (tp tc : Nat → Nat) (b ko : Nat) (mr ma : Nat → Int32) : Nat → Nat → Int32
  | 0 => ma
  | s + 1 => zoM (com (zit par b (ko - (s + 1)))) (tp (zit par b (ko - (s + 1)))) (tc (zit par b (ko - (s + 1)))) (zons par com tp tc b ko mr ma s) mr
/-! the class's cells of the versions, and of the version that is there -/
def zVs (cC : ClassId) (q : Nat → Nat) (f : zF) (n : Nat) (par : Nat → Nat) (com : Nat → Bool) (tp tc : Nat → Nat) (tq : Nat → Nat → Int32) (cn : Nat → Nat) (lat : Nat → Value) : Prop := ∀ v, v < n → f (24 + 2 * v) = zver q v (if v = 0 then .null else .ref (q (24 + 2 * par v))) (zbi (com v)) (tp v) (23 + 2 * v) (cn v) (lat v) ∧ f (23 + 2 * v) = .inl (cC, tc v, .inl (tq v)) ∧ zCh (tq v)
def zCur (cC cI : ClassId) (q : Nat → Nat) (n ins u : Nat) (tz : Nat → Nat) (tt : Nat → Nat → Int32) (mp : Nat → Int32) (f : zF) : Prop := f 0 = zbo q n ins (24 + 2 * u) ∧ f 1 = zrow q 2 (tz u) ∧ (∃ tx, f 2 = .inl (cC, 2000, .inl tx) ∧ zCh tx ∧ ∀ i, i < tz u → tx i = tt u i) ∧ f 6 = .inl (cI, 6, .inl mp)
theorem zVs.par {cC : ClassId} {q : Nat → Nat} {f : zF} {n : Nat} {par : Nat → Nat} {com : Nat → Bool} {tp tc : Nat → Nat} {tq : Nat → Nat → Int32} {cn : Nat → Nat} {lat : Nat → Value} (V : zVs cC q f n par com tp tc tq cn lat) {v : Nat} (h0 : 0 < v) (hv : v < n) : f (24 + 2 * v) = zver q v (.ref (q (24 + 2 * par v))) (zbi (com v)) (tp v) (23 + 2 * v) (cn v) (lat v) := by
  have h := (V v hv).1
  rwa [if_neg (by omega)] at h
theorem zVs.root {cC : ClassId} {q : Nat → Nat} {f : zF} {n : Nat} {par : Nat → Nat} {com : Nat → Bool} {tp tc : Nat → Nat} {tq : Nat → Nat → Int32} {cn : Nat → Nat} {lat : Nat → Value} (V : zVs cC q f n par com tp tc tq cn lat) (hv : 0 < n) : f 24 = zver q 0 .null (zbi (com 0)) (tp 0) 23 (cn 0) (lat 0) := by
  have h := (V 0 hv).1
  rwa [if_pos rfl] at h
theorem zVs.keep {cC : ClassId} {q : Nat → Nat} {f f' : zF} {n : Nat} {par : Nat → Nat} {com : Nat → Bool} {tp tc : Nat → Nat} {tq : Nat → Nat → Int32} {cn : Nat → Nat} {lat : Nat → Value} (V : zVs cC q f n par com tp tc tq cn lat) (h : ∀ jj, 23 ≤ jj → f' jj = f jj) : zVs cC q f' n par com tp tc tq cn lat := fun v hv => by
  obtain ⟨h1, h2, h3⟩ := V v hv
  exact ⟨(h _ (by omega)).trans h1, (h _ (by omega)).trans h2, h3⟩
section ZSteps
variable {l : Launch} {D : va_G} {cI cC cZ cV : ClassId} {N : Nat} {q : Nat → Nat} {f : zF} {n ins u : Nat} {par : Nat → Nat} {com : Nat → Bool} {tp tc : Nat → Nat} {tq : Nat → Nat → Int32} {tz : Nat → Nat} {tt : Nat → Nat → Int32} {cn : Nat → Nat} {lat : Nat → Value} {mp mr : Nat → Int32}
theorem c_B_stepBackV (hNn : 23 + 2 * n ≤ N) (Cu : zCur cC cI q n ins u tz tt mp f) (h5 : f 5 = .inr (iM, [.ref (q 6), .ref (q 7)])) (h7 : f 7 = .inl (cZ, 6, .inl mr)) (V : zVs cC q f n par com tp tc tq cn lat) (T : zTree n par com tp tc tq tz tt) (hu0 : 0 < u) (hu : u < n) : zC l y_B_stepBackTo b_B_stepBackTo 2 none (rmD 3 0 0) D (zty cI cC cZ cV) [.ref (q 0), .ref (q (24 + 2 * par u))] N q f (pV N q (fun f' => zCur cC cI q n ins (par u) tz tt (zoM (!(com u)) (tp u) (tc u) mp mr) f' ∧ ∀ jj, jj ≠ 0 → jj ≠ 1 → jj ≠ 2 → jj ≠ 6 → f' jj = f jj)) := by
  obtain ⟨h0, h1, ⟨tx, h2, htx, hag⟩, h6⟩ := Cu
  obtain ⟨k1, k2, k3⟩ := T.back hu0 hu
  refine zC.imp (c_B_stepBackTo (by omega) h0 h1 h2 h5 h6 h7 (jp := 23 + 2 * u) (by omega) (by omega) (V u hu).2.1 htx (V u hu).2.2 (by omega) (by omega) (V.par hu0 hu) k1) ?_
  rintro v N' q' f' ⟨rfl, rfl, rfl, rfl⟩
  refine ⟨rfl, rfl, rfl, ⟨up_eq, ?_, ⟨_, ?_, ?_, k3 tx hag⟩, ?_⟩, fun jj a b c d => up_ne a (up_ne d (up_ne b (up_ne c rfl)))⟩
  · rw [← k2]
    exact up_ne (by decide) (up_ne (by decide) up_eq)
  · exact up_ne (by decide) (up_ne (by decide) (up_ne (by decide) up_eq))
  · unfold zoT
    split
    · exact zCh.cpy (V u hu).2.2 (zCh.cpy htx htx)
    · exact zCh.cpy htx htx
  · exact up_ne (by decide) up_eq
theorem c_B_stepOnV (hNn : 23 + 2 * n ≤ N) {w : Nat} (Cu : zCur cC cI q n ins (par w) tz tt mp f) (h5 : f 5 = .inr (iM, [.ref (q 6), .ref (q 7)])) (h7 : f 7 = .inl (cZ, 6, .inl mr)) (V : zVs cC q f n par com tp tc tq cn lat) (T : zTree n par com tp tc tq tz tt) (hw0 : 0 < w) (hw : w < n) : zC l y_B_stepOnTo b_B_stepOnTo 2 none (rmD 3 0 0) D (zty cI cC cZ cV) [.ref (q 0), .ref (q (24 + 2 * w))] N q f (pV N q (fun f' => zCur cC cI q n ins w tz tt (zoM (com w) (tp w) (tc w) mp mr) f' ∧ ∀ jj, jj ≠ 0 → jj ≠ 1 → jj ≠ 2 → jj ≠ 6 → f' jj = f jj)) := by
  obtain ⟨h0, h1, ⟨tx, h2, htx, hag⟩, h6⟩ := Cu
  refine zC.imp (c_B_stepOnTo (by omega) h0 h1 h2 h5 h6 h7 (jp := 23 + 2 * w) (by omega) (by omega) (V w hw).2.1 htx (V w hw).2.2 (by omega) (by omega) (V.par hw0 hw) (T.ok hw0 hw)) ?_
  rintro v N' q' f' ⟨rfl, rfl, rfl, rfl⟩
  refine ⟨rfl, rfl, rfl, ⟨up_eq, ?_, ⟨_, ?_, ?_, T.on hw0 hw hag (fun _ i _ => rfl)⟩, ?_⟩, fun jj a b c d => up_ne a (up_ne d (up_ne b (up_ne c rfl)))⟩
  · rw [T.sz hw0 hw]
    exact up_ne (by decide) (up_ne (by decide) up_eq)
  · exact up_ne (by decide) (up_ne (by decide) (up_ne (by decide) up_eq))
  · unfold zoT
    split
    · exact zCh.cpy (V w hw).2.2 (zCh.cpy htx htx)
    · exact zCh.cpy htx htx
  · exact up_ne (by decide) up_eq
end ZSteps
