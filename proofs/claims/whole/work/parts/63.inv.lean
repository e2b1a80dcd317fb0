/-! what holds between two calls of the law: the class's cells, the reference's cells, and what ties them -/
def zIC (cI cC cZ cV : ClassId) (N : Nat) (q : Nat → Nat) (f : zF) (n ins a k : Nat) (par : Nat → Nat) (com : Nat → Bool) (tp tc : Nat → Nat) (tq : Nat → Nat → Int32) (tz : Nat → Nat) (tt : Nat → Nat → Int32) (cn : Nat → Nat) (lat : Nat → Value) (mp mr sc : Nat → Int32) : Prop := N = 23 + 2 * n ∧ zCur cC cI q n ins a tz tt mp f ∧ f 3 = zrow q 4 k ∧ f 4 = .inl (cC, 40, .inl sc) ∧ zCh sc ∧ f 5 = .inr (iM, [.ref (q 6), .ref (q 7)]) ∧ f 7 = .inl (cZ, 6, .inl mr) ∧ (∃ md, f 8 = .inl (cV, 122, .inr (.inr (.inr (.inr md)))) ∧ ∀ v, v < n → md v = some (q (24 + 2 * v))) ∧ (∃ wo, f 9 = .inl (cV, 122, .inr (.inr (.inr (.inr wo))))) ∧ zVs cC q f n par com tp tc tq cn lat
def zIM (cI cC cZ : ClassId) (q : Nat → Nat) (f : zF) (n ins a k : Nat) (par : Nat → Nat) (com : Nat → Bool) (tp tc : Nat → Nat) (tq : Nat → Nat → Int32) (tz : Nat → Nat) (tt : Nat → Nat → Int32) (pa iset ma mr sc : Nat → Int32) : Prop := f 10 = zmo q n ins a (tz a) k ∧ f 11 = .inl (cI, 122, .inl pa) ∧ f 19 = .inl (cC, 40, .inl sc) ∧ zCh sc ∧ f 20 = .inl (cZ, 6, .inl iset) ∧ f 21 = .inl (cI, 6, .inl ma) ∧ f 22 = .inl (cZ, 6, .inl mr) ∧ ∃ co pl mn fi pool tx way, f 12 = .inl (cZ, 122, .inl co) ∧ f 13 = .inl (cI, 122, .inl pl) ∧ f 14 = .inl (cI, 122, .inl mn) ∧ f 15 = .inl (cI, 122, .inl fi) ∧ f 16 = .inl (cC, 2000, .inl pool) ∧ f 17 = .inl (cC, 2000, .inl tx) ∧ f 18 = .inl (cI, 122, .inl way) ∧ zMT n par com tp tc tq pa co pl mn fi pool ∧ zPool n com tc tq fi pool ins ∧ zCh pool ∧ zCh tx ∧ ∀ j, j < tz a → tx j = tt a j
def zIP (q : Nat → Nat) (n ins a k : Nat) (par : Nat → Nat) (com : Nat → Bool) (tp tc : Nat → Nat) (tq : Nat → Nat → Int32) (tz : Nat → Nat) (tt : Nat → Nat → Int32) (cn : Nat → Nat) (lat : Nat → Value) (mp mr sc pa iset ma mr2 sc2 : Nat → Int32) : Prop := 1 ≤ n ∧ n ≤ 122 ∧ a < n ∧ ins ≤ 2000 ∧ k ≤ 40 ∧ par 0 = 0 ∧ zTree n par com tp tc tq tz tt ∧ (∀ v, v < n → tz v ≤ ins) ∧ (∀ v, v < n → cn v = zcc pa v n ∧ lat v = va_rf ((zlt pa v n).map (fun u => q (24 + 2 * u)))) ∧ (∀ i, i < k → sc i = sc2 i) ∧ zMk (tz a) iset ma mp ∧ ∀ m, m < 6 → mr m = mr2 m
def zInv (cI cC cZ cV : ClassId) (N : Nat) (q : Nat → Nat) (f : zF) : Prop := ∃ (n ins a k : Nat) (par : Nat → Nat) (com : Nat → Bool) (tp tc : Nat → Nat) (tq : Nat → Nat → Int32) (tz : Nat → Nat) (tt : Nat → Nat → Int32) (cn : Nat → Nat) (lat : Nat → Value) (mp mr sc pa iset ma mr2 sc2 : Nat → Int32), zIC cI cC cZ cV N q f n ins a k par com tp tc tq tz tt cn lat mp mr sc ∧ zIM cI cC cZ q f n ins a k par com tp tc tq tz tt pa iset ma mr2 sc2 ∧ zIP q n ins a k par com tp tc tq tz tt cn lat mp mr sc pa iset ma mr2 sc2
section ZInv
variable {l : Launch} {D : va_G} {cI cC cZ cV : ClassId} {N : Nat} {q : Nat → Nat} {f f' : zF} {n ins a k : Nat} {par : Nat → Nat} {com : Nat → Bool} {tp tc : Nat → Nat} {tq : Nat → Nat → Int32} {tz : Nat → Nat} {tt : Nat → Nat → Int32} {cn : Nat → Nat} {lat : Nat → Value} {mp mr sc pa iset ma mr2 sc2 : Nat → Int32}
theorem zCur.keep {u : Nat} (Cu : zCur cC cI q n ins u tz tt mp f) (h : ∀ jj, jj < 3 ∨ jj = 6 → f' jj = f jj) : zCur cC cI q n ins u tz tt mp f' := by
  obtain ⟨h0, h1, ⟨tx, h2, h3⟩, h6⟩ := Cu
  exact ⟨(h 0 (by omega)).trans h0, (h 1 (by omega)).trans h1, ⟨tx, (h 2 (by omega)).trans h2, h3⟩, (h 6 (by omega)).trans h6⟩
theorem zIC.keep (C : zIC cI cC cZ cV N q f n ins a k par com tp tc tq tz tt cn lat mp mr sc) (h : ∀ jj, jj < 10 ∨ 23 ≤ jj → f' jj = f jj) : zIC cI cC cZ cV N q f' n ins a k par com tp tc tq tz tt cn lat mp mr sc := by
  obtain ⟨c1, c2, c3, c4, c5, c6, c7, ⟨md, c8, c8'⟩, ⟨wo, c9⟩, c10⟩ := C
  exact ⟨c1, c2.keep (fun jj k => h jj (by omega)), (h 3 (by omega)).trans c3, (h 4 (by omega)).trans c4, c5, (h 5 (by omega)).trans c6, (h 7 (by omega)).trans c7, ⟨md, (h 8 (by omega)).trans c8, c8'⟩, ⟨wo, (h 9 (by omega)).trans c9⟩, c10.keep (fun jj k => h jj (by omega))⟩
theorem zIM.keep (C : zIM cI cC cZ q f n ins a k par com tp tc tq tz tt pa iset ma mr sc) (h : ∀ jj, 10 ≤ jj → jj < 23 → f' jj = f jj) : zIM cI cC cZ q f' n ins a k par com tp tc tq tz tt pa iset ma mr sc := by
  obtain ⟨c1, c2, c3, c4, c5, c6, c7, co, pl, mn, fi, pool, tx, way, d1, d2, d3, d4, d5, d6, d7, d8⟩ := C
  have g := fun jj a b => h jj a b
  exact ⟨(h 10 (by omega) (by omega)).trans c1, (h 11 (by omega) (by omega)).trans c2, (h 19 (by omega) (by omega)).trans c3, c4, (h 20 (by omega) (by omega)).trans c5, (h 21 (by omega) (by omega)).trans c6, (h 22 (by omega) (by omega)).trans c7, co, pl, mn, fi, pool, tx, way, (h 12 (by omega) (by omega)).trans d1, (h 13 (by omega) (by omega)).trans d2, (h 14 (by omega) (by omega)).trans d3, (h 15 (by omega) (by omega)).trans d4, (h 16 (by omega) (by omega)).trans d5, (h 17 (by omega) (by omega)).trans d6, (h 18 (by omega) (by omega)).trans d7, d8⟩
/-! the scratch changes -/
theorem zIC.scr (C : zIC cI cC cZ cV N q f n ins a k par com tp tc tq tz tt cn lat mp mr sc) {k' : Nat} {sc' : Nat → Int32} (h3 : f' 3 = zrow q 4 k') (h4 : f' 4 = .inl (cC, 40, .inl sc')) (hc : zCh sc') (h : ∀ jj, jj ≠ 3 → jj ≠ 4 → f' jj = f jj) : zIC cI cC cZ cV N q f' n ins a k' par com tp tc tq tz tt cn lat mp mr sc' := by
  obtain ⟨c1, c2, -, -, -, c6, c7, ⟨md, c8, c8'⟩, ⟨wo, c9⟩, c10⟩ := C
  exact ⟨c1, c2.keep (fun jj k => h jj (by omega) (by omega)), h3, h4, hc, (h 5 (by omega) (by omega)).trans c6, (h 7 (by omega) (by omega)).trans c7, ⟨md, (h 8 (by omega) (by omega)).trans c8, c8'⟩, ⟨wo, (h 9 (by omega) (by omega)).trans c9⟩, c10.keep (fun jj k => h jj (by omega) (by omega))⟩
theorem zIM.scr (C : zIM cI cC cZ q f n ins a k par com tp tc tq tz tt pa iset ma mr sc) {k' : Nat} {sc' : Nat → Int32} (h10 : f' 10 = zmo q n ins a (tz a) k') (h19 : f' 19 = .inl (cC, 40, .inl sc')) (hc : zCh sc') (h : ∀ jj, jj ≠ 10 → jj ≠ 19 → f' jj = f jj) : zIM cI cC cZ q f' n ins a k' par com tp tc tq tz tt pa iset ma mr sc' := by
  obtain ⟨c1, c2, -, -, c5, c6, c7, co, pl, mn, fi, pool, tx, way, d1, d2, d3, d4, d5, d6, d7, d8⟩ := C
  exact ⟨h10, (h 11 (by omega) (by omega)).trans c2, h19, hc, (h 20 (by omega) (by omega)).trans c5, (h 21 (by omega) (by omega)).trans c6, (h 22 (by omega) (by omega)).trans c7, co, pl, mn, fi, pool, tx, way, (h 12 (by omega) (by omega)).trans d1, (h 13 (by omega) (by omega)).trans d2, (h 14 (by omega) (by omega)).trans d3, (h 15 (by omega) (by omega)).trans d4, (h 16 (by omega) (by omega)).trans d5, (h 17 (by omega) (by omega)).trans d6, (h 18 (by omega) (by omega)).trans d7, d8⟩
theorem zIP.scr (P : zIP q n ins a k par com tp tc tq tz tt cn lat mp mr sc pa iset ma mr2 sc2) {k' : Nat} {sc' sc2' : Nat → Int32} (hk : k' ≤ 40) (h : ∀ i, i < k' → sc' i = sc2' i) : zIP q n ins a k' par com tp tc tq tz tt cn lat mp mr sc' pa iset ma mr2 sc2' := by
  obtain ⟨p1, p2, p3, p4, p5, p6, p7, p8, p9, p10, p11, p12⟩ := P
  exact ⟨p1, p2, p3, p4, hk, p6, p7, p8, p9, h, p11, p12⟩
/-! marks change -/
theorem zIC.mrk (C : zIC cI cC cZ cV N q f n ins a k par com tp tc tq tz tt cn lat mp mr sc) {mp' mr' : Nat → Int32} (h6 : f' 6 = .inl (cI, 6, .inl mp')) (h7 : f' 7 = .inl (cZ, 6, .inl mr')) (h : ∀ jj, jj ≠ 6 → jj ≠ 7 → f' jj = f jj) : zIC cI cC cZ cV N q f' n ins a k par com tp tc tq tz tt cn lat mp' mr' sc := by
  obtain ⟨c1, ⟨x0, x1, ⟨tx, x2, x3⟩, x6⟩, c3, c4, c5, c6, c7, ⟨md, c8, c8'⟩, ⟨wo, c9⟩, c10⟩ := C
  exact ⟨c1, ⟨(h 0 (by omega) (by omega)).trans x0, (h 1 (by omega) (by omega)).trans x1, ⟨tx, (h 2 (by omega) (by omega)).trans x2, x3⟩, h6⟩, (h 3 (by omega) (by omega)).trans c3, (h 4 (by omega) (by omega)).trans c4, c5, (h 5 (by omega) (by omega)).trans c6, h7, ⟨md, (h 8 (by omega) (by omega)).trans c8, c8'⟩, ⟨wo, (h 9 (by omega) (by omega)).trans c9⟩, c10.keep (fun jj k => h jj (by omega) (by omega))⟩
theorem zIM.mrk (C : zIM cI cC cZ q f n ins a k par com tp tc tq tz tt pa iset ma mr sc) {iset' ma' mr' : Nat → Int32} (h20 : f' 20 = .inl (cZ, 6, .inl iset')) (h21 : f' 21 = .inl (cI, 6, .inl ma')) (h22 : f' 22 = .inl (cZ, 6, .inl mr')) (h : ∀ jj, jj < 20 → f' jj = f jj) : zIM cI cC cZ q f' n ins a k par com tp tc tq tz tt pa iset' ma' mr' sc := by
  obtain ⟨c1, c2, c3, c4, -, -, -, co, pl, mn, fi, pool, tx, way, d1, d2, d3, d4, d5, d6, d7, d8⟩ := C
  exact ⟨(h 10 (by omega)).trans c1, (h 11 (by omega)).trans c2, (h 19 (by omega)).trans c3, c4, h20, h21, h22, co, pl, mn, fi, pool, tx, way, (h 12 (by omega)).trans d1, (h 13 (by omega)).trans d2, (h 14 (by omega)).trans d3, (h 15 (by omega)).trans d4, (h 16 (by omega)).trans d5, (h 17 (by omega)).trans d6, (h 18 (by omega)).trans d7, d8⟩
theorem zIP.mrk (P : zIP q n ins a k par com tp tc tq tz tt cn lat mp mr sc pa iset ma mr2 sc2) {mp' mr' iset' ma' mr2' : Nat → Int32} (h1 : zMk (tz a) iset' ma' mp') (h2 : ∀ m, m < 6 → mr' m = mr2' m) : zIP q n ins a k par com tp tc tq tz tt cn lat mp' mr' sc pa iset' ma' mr2' sc2 := by
  obtain ⟨p1, p2, p3, p4, p5, p6, p7, p8, p9, p10, p11, p12⟩ := P
  exact ⟨p1, p2, p3, p4, p5, p6, p7, p8, p9, p10, h1, h2⟩
/-! another version is there -/
theorem zIC.mov (C : zIC cI cC cZ cV N q f n ins a k par com tp tc tq tz tt cn lat mp mr sc) {a' : Nat} {mp' : Nat → Int32} (Cu : zCur cC cI q n ins a' tz tt mp' f') (h9 : ∃ wo, f' 9 = .inl (cV, 122, .inr (.inr (.inr (.inr wo))))) (h : ∀ jj, jj ≠ 0 → jj ≠ 1 → jj ≠ 2 → jj ≠ 6 → jj ≠ 9 → f' jj = f jj) : zIC cI cC cZ cV N q f' n ins a' k par com tp tc tq tz tt cn lat mp' mr sc := by
  obtain ⟨c1, -, c3, c4, c5, c6, c7, ⟨md, c8, c8'⟩, -, c10⟩ := C
  have g := fun jj (x : jj ≠ 0 ∧ jj ≠ 1 ∧ jj ≠ 2 ∧ jj ≠ 6 ∧ jj ≠ 9) => h jj x.1 x.2.1 x.2.2.1 x.2.2.2.1 x.2.2.2.2
  exact ⟨c1, Cu, (g 3 (by omega)).trans c3, (g 4 (by omega)).trans c4, c5, (g 5 (by omega)).trans c6, (g 7 (by omega)).trans c7, ⟨md, (g 8 (by omega)).trans c8, c8'⟩, h9, c10.keep (fun jj k => g jj (by omega))⟩
theorem zIM.mov (C : zIM cI cC cZ q f n ins a k par com tp tc tq tz tt pa iset ma mr sc) {a' : Nat} {ma' : Nat → Int32} (Md : zMade cC cI q n ins a' k tz tt ma' f f') : zIM cI cC cZ q f' n ins a' k par com tp tc tq tz tt pa iset ma' mr sc := by
  obtain ⟨c1, c2, c3, c4, c5, c6, c7, co, pl, mn, fi, pool, tx, way, d1, d2, d3, d4, d5, d6, d7, d8, d9, d10, d11, d12⟩ := C
  obtain ⟨⟨g, w, m1, m2, m3, m4, m5⟩, m6, m7⟩ := Md
  have h := fun jj (x : jj ≠ 10 ∧ jj ≠ 17 ∧ jj ≠ 18 ∧ jj ≠ 21) => m7 jj x.1 x.2.1 x.2.2.1 x.2.2.2
  exact ⟨m1, (h 11 (by omega)).trans c2, (h 19 (by omega)).trans c3, c4, (h 20 (by omega)).trans c5, m6, (h 22 (by omega)).trans c7, co, pl, mn, fi, pool, g, w, (h 12 (by omega)).trans d1, (h 13 (by omega)).trans d2, (h 14 (by omega)).trans d3, (h 15 (by omega)).trans d4, (h 16 (by omega)).trans d5, m2, m3, d8, d9, d10, m4, m5⟩
theorem zIP.mov (P : zIP q n ins a k par com tp tc tq tz tt cn lat mp mr sc pa iset ma mr2 sc2) {a' : Nat} {mp' ma' : Nat → Int32} (h1 : a' < n) (h2 : zMk (tz a') iset ma' mp') : zIP q n ins a' k par com tp tc tq tz tt cn lat mp' mr sc pa iset ma' mr2 sc2 := by
  obtain ⟨p1, p2, p3, p4, p5, p6, p7, p8, p9, p10, p11, p12⟩ := P
  exact ⟨p1, p2, h1, p4, p5, p6, p7, p8, p9, p10, h2, p12⟩
/-- marks on a step back, on a step on, on the whole way -/
theorem zMk.bk (T : zTree n par com tp tc tq tz tt) {u : Nat} (h0 : 0 < u) (hu : u < n) (h : zMk (tz u) iset ma mp) (hr : ∀ m, m < 6 → mr m = mr2 m) : zMk (tz (par u)) iset (zoM (!(com u)) (tp u) (tc u) ma mr2) (zoM (!(com u)) (tp u) (tc u) mp mr) := by
  obtain ⟨k1, k2, -⟩ := T.back h0 hu
  rw [← k2]
  exact h.step k1 (fun m hm => (hr m hm).symm)
theorem zMk.on (T : zTree n par com tp tc tq tz tt) {u : Nat} (h0 : 0 < u) (hu : u < n) (h : zMk (tz (par u)) iset ma mp) (hr : ∀ m, m < 6 → mr m = mr2 m) : zMk (tz u) iset (zoM (com u) (tp u) (tc u) ma mr2) (zoM (com u) (tp u) (tc u) mp mr) := by
  rw [T.sz h0 hu]
  exact h.step (T.ok h0 hu) (fun m hm => (hr m hm).symm)
theorem zMk.way (T : zTree n par com tp tc tq tz tt) (hp0 : par 0 = 0) {b kb ko : Nat} (ha : a < n) (hb : b < n) (w : zWay par a b kb ko) (h : zMk (tz a) iset ma mp) (hr : ∀ m, m < 6 → mr m = mr2 m) : zMk (tz b) iset (zons par com tp tc b ko mr2 (zbks par com tp tc a mr2 ma kb) ko) (zons par com tp tc b ko mr (zbks par com tp tc a mr mp kb) ko) := by
  have hp := fun v h0 h => T.lt (v := v) h0 h
  have h1 : ∀ i, i ≤ kb → zMk (tz (zit par a i)) iset (zbks par com tp tc a mr2 ma i) (zbks par com tp tc a mr mp i) := by
    intro i
    induction i with
    | zero => intro _; exact h
    | succ i ih =>
      intro hi
      exact zMk.bk T (w.back hp hp0 ha hb (by omega)) (zit_lt hp hp0 ha i) (ih (by omega)) hr
  have h2 : ∀ s, s ≤ ko → zMk (tz (zit par b (ko - s))) iset (zons par com tp tc b ko mr2 (zbks par com tp tc a mr2 ma kb) s) (zons par com tp tc b ko mr (zbks par com tp tc a mr mp kb) s) := by
    intro s
    induction s with
    | zero =>
      intro _
      have h3 := h1 kb (Nat.le_refl _)
      rw [w.1] at h3
      exact h3
    | succ s ih =>
      intro hs
      have h3 := ih (by omega)
      rw [show ko - s = (ko - (s + 1)) + 1 by omega] at h3
      exact zMk.on T (w.on hp0 (by omega)) (zit_lt hp hp0 hb _) h3 hr
  have h4 := h2 ko (Nat.le_refl _)
  rw [Nat.sub_self] at h4
  exact h4
end ZInv
