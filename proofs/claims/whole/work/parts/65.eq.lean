/-! both sides answer the same -/
/-- b is the mark that both loops look for among the marks that 'in' says: at x or beyond, least place, then least number -/
def zBest (inn : Nat → Prop) (ma : Nat → Int32) (x : Int32) (o : Option Nat) : Prop := match o with
  | none => ∀ m, inn m → ma m < x
  | some b => inn b ∧ ¬ ma b < x ∧ ∀ m, inn m → ¬ ma m < x → ma b ≤ ma m ∧ (m < b → ma b < ma m)
theorem zBest_one {inn : Nat → Prop} {ma : Nat → Int32} {x : Int32} {o o' : Option Nat} (h : zBest inn ma x o) (h' : zBest inn ma x o') : o = o' := by
  cases o with
  | none =>
    cases o' with
    | none => rfl
    | some b => exact absurd (h b h'.1) h'.2.1
  | some b =>
    cases o' with
    | none => exact absurd (h' b h.1) h.2.1
    | some b' =>
      have h1 := h.2.2 b' h'.1 h'.2.1
      have h2 := h'.2.2 b h.1 h.2.1
      by_cases hb : b < b'
      · exact absurd (h2.2 hb) (z_not_lt h1.1)
      · by_cases hb2 : b' < b
        · exact absurd (h1.2 hb2) (z_not_lt h2.1)
        · rw [show b = b' by omega]
theorem zBest_congr {inn inn' : Nat → Prop} {ma ma' : Nat → Int32} {x : Int32} {o : Option Nat} (h : zBest inn ma x o) (h1 : ∀ m, inn' m ↔ inn m) (h2 : ∀ m, inn m → ma m = ma' m) : zBest inn' ma' x o := by
  cases o with
  | none =>
    intro m hm
    rw [← h2 m ((h1 m).mp hm)]
    exact h m ((h1 m).mp hm)
  | some b =>
    obtain ⟨a1, a2, a3⟩ := h
    refine ⟨(h1 b).mpr a1, by rw [← h2 b a1]; exact a2, fun m hm hx => ?_⟩
    rw [← h2 b a1, ← h2 m ((h1 m).mp hm)]
    exact a3 m ((h1 m).mp hm) (by rw [h2 m ((h1 m).mp hm)]; exact hx)
theorem zff_best {mp : Nat → Int32} {x : Int32} : ∀ (i : Nat), zBest (fun m => m < i) mp x (zff mp x i)
  | 0 => fun m hm => absurd hm (Nat.not_lt_zero _)
  | i + 1 => by
    have ih := zff_best (mp := mp) (x := x) i
    have hz : zff mp x (i + 1) = match zff mp x i with | none => if mp i < x then none else some i | some b => if mp i < x then some b else if mp b ≤ mp i then some b else some i := rfl
    rw [hz]
    cases ho : zff mp x i with
    | none =>
      rw [ho] at ih
      by_cases h : mp i < x
      · simp only [h, if_true]
        intro m hm
        by_cases hmi : m = i
        · rw [hmi]; exact h
        · exact ih m (show m < i by have : m < i + 1 := hm; omega)
      · simp only [h, if_false]
        refine ⟨Nat.lt_succ_self i, h, fun m hm hx => ?_⟩
        by_cases hmi : m = i
        · rw [hmi]
          exact ⟨Int32.le_refl _, fun h9 => absurd h9 (Nat.lt_irrefl _)⟩
        · exact absurd (ih m (show m < i by have : m < i + 1 := hm; omega)) hx
    | some b =>
      rw [ho] at ih
      obtain ⟨a1, a2, a3⟩ := ih
      have a1 : b < i := a1
      by_cases h : mp i < x
      · simp only [h, if_true]
        refine ⟨show b < i + 1 by omega, a2, fun m hm hx => ?_⟩
        by_cases hmi : m = i
        · rw [hmi] at hx; exact absurd h hx
        · exact a3 m (show m < i by have : m < i + 1 := hm; omega) hx
      · by_cases h2 : mp b ≤ mp i
        · simp only [h, h2, if_true, if_false]
          refine ⟨show b < i + 1 by omega, a2, fun m hm hx => ?_⟩
          by_cases hmi : m = i
          · rw [hmi]
            exact ⟨h2, fun h9 => by omega⟩
          · exact a3 m (show m < i by have : m < i + 1 := hm; omega) hx
        · simp only [h, h2, if_false]
          have h3 : mp i < mp b := Int32.not_le.mp h2
          refine ⟨show i < i + 1 by omega, h, fun m hm hx => ?_⟩
          by_cases hmi : m = i
          · rw [hmi]
            exact ⟨Int32.le_refl _, fun h9 => absurd h9 (Nat.lt_irrefl _)⟩
          · have h4 := a3 m (show m < i by have : m < i + 1 := hm; omega) hx
            have h5 : mp i < mp m := Int32.lt_of_lt_of_le h3 h4.1
            exact ⟨Int32.le_of_lt h5, fun _ => h5⟩
theorem znm_best {iset ma : Nat → Int32} {x : Int32} : ∀ (d : Nat), d ≤ 6 → zBest (fun m => 6 - d ≤ m ∧ m < 6 ∧ ¬ iset m = 0) ma x (znm iset ma x d)
  | 0, _ => fun m hm => absurd hm.1 (by omega)
  | d + 1, hd => by
    have ih := znm_best (iset := iset) (ma := ma) (x := x) d (by omega)
    have hz : znm iset ma x (d + 1) = match znm iset ma x d with | none => if iset (5 - d) = 0 then none else if ma (5 - d) < x then none else some (5 - d) | some b => if iset (5 - d) = 0 then some b else if ma (5 - d) < x then some b else if ma b < ma (5 - d) then some b else some (5 - d) := rfl
    rw [hz]
    have hsp : ∀ m, (6 - (d + 1) ≤ m ∧ m < 6 ∧ ¬ iset m = 0) → m ≠ 5 - d → (6 - d ≤ m ∧ m < 6 ∧ ¬ iset m = 0) := fun m h h1 => ⟨by omega, h.2.1, h.2.2⟩
    cases ho : znm iset ma x d with
    | none =>
      rw [ho] at ih
      by_cases h0 : iset (5 - d) = 0
      · simp only [h0, if_true]
        intro m hm
        by_cases hmi : m = 5 - d
        · rw [hmi] at hm; exact absurd h0 hm.2.2
        · exact ih m (hsp m hm hmi)
      · by_cases h : ma (5 - d) < x
        · simp only [h0, h, if_true, if_false]
          intro m hm
          by_cases hmi : m = 5 - d
          · rw [hmi]; exact h
          · exact ih m (hsp m hm hmi)
        · simp only [h0, h, if_false]
          refine ⟨⟨by omega, by omega, h0⟩, h, fun m hm hx => ?_⟩
          by_cases hmi : m = 5 - d
          · rw [hmi]
            exact ⟨Int32.le_refl _, fun h9 => absurd h9 (Nat.lt_irrefl _)⟩
          · exact absurd (ih m (hsp m hm hmi)) hx
    | some b =>
      rw [ho] at ih
      obtain ⟨a1, a2, a3⟩ := ih
      have keep : zBest (fun m => 6 - (d + 1) ≤ m ∧ m < 6 ∧ ¬ iset m = 0) ma x (some b) ∨ (¬ iset (5 - d) = 0 ∧ ¬ ma (5 - d) < x) := by
        by_cases h0 : iset (5 - d) = 0
        · refine Or.inl ⟨⟨by have := a1.1; omega, a1.2⟩, a2, fun m hm hx => ?_⟩
          by_cases hmi : m = 5 - d
          · rw [hmi] at hm; exact absurd h0 hm.2.2
          · exact a3 m (hsp m hm hmi) hx
        · by_cases h : ma (5 - d) < x
          · refine Or.inl ⟨⟨by have := a1.1; omega, a1.2⟩, a2, fun m hm hx => ?_⟩
            by_cases hmi : m = 5 - d
            · rw [hmi] at hx; exact absurd h hx
            · exact a3 m (hsp m hm hmi) hx
          · exact Or.inr ⟨h0, h⟩
      by_cases h0 : iset (5 - d) = 0
      · simp only [h0, if_true]
        exact keep.resolve_right (fun h => h.1 h0)
      · by_cases h : ma (5 - d) < x
        · simp only [h0, h, if_true, if_false]
          exact keep.resolve_right (fun h9 => h9.2 h)
        · by_cases h2 : ma b < ma (5 - d)
          · simp only [h0, h, h2, if_true, if_false]
            refine ⟨⟨by have := a1.1; omega, a1.2⟩, a2, fun m hm hx => ?_⟩
            by_cases hmi : m = 5 - d
            · rw [hmi]
              exact ⟨Int32.le_of_lt h2, fun _ => h2⟩
            · exact a3 m (hsp m hm hmi) hx
          · simp only [h0, h, h2, if_false]
            have h3 : ma (5 - d) ≤ ma b := Int32.not_lt.mp h2
            refine ⟨⟨by omega, by omega, h0⟩, h, fun m hm hx => ?_⟩
            by_cases hmi : m = 5 - d
            · rw [hmi]
              exact ⟨Int32.le_refl _, fun h9 => absurd h9 (Nat.lt_irrefl _)⟩
            · have h4 := a3 m (hsp m hm hmi) hx
              exact ⟨Int32.le_trans h3 h4.1, fun h9 => by have := hm.1; omega⟩
theorem z_next {sz p : Nat} {iset ma mp : Nat → Int32} (h : zMk sz iset ma mp) (hs : sz ≤ 2000) (hp : p ≤ 2000) : zff mp (nI p) 6 = znm iset ma (nI p) 6 := by
  have h1 := zff_best (mp := mp) (x := nI p) 6
  have h2 := znm_best (iset := iset) (ma := ma) (x := nI p) 6 (Nat.le_refl _)
  have hm1 : (-1 : Int32) < nI p := z_m1_lt (by omega)
  have fact : ∀ m, m < 6 → (¬ iset m = 0 ∧ mp m = ma m) ∨ (iset m = 0 ∧ mp m < nI p) := fun m hm => by
    obtain ⟨a, ha, e1, e2⟩ := h m hm
    rcases e2 with ⟨e3, e4⟩ | ⟨e3, e4⟩
    · exact Or.inl ⟨by rw [e3]; decide, by rw [e4, e1]⟩
    · exact Or.inr ⟨by rw [e3]; rfl, by rw [e4]; exact hm1⟩
  refine zBest_one (inn := fun m => 6 - 6 ≤ m ∧ m < 6 ∧ ¬ iset m = 0) (ma := ma) (x := nI p) ?_ h2
  cases ho : zff mp (nI p) 6 with
  | none =>
    rw [ho] at h1
    intro m hm
    rcases fact m hm.2.1 with h9 | h9
    · rw [← h9.2]; exact h1 m hm.2.1
    · exact absurd h9.1 hm.2.2
  | some b =>
    rw [ho] at h1
    obtain ⟨a1, a2, a3⟩ := h1
    have a1 : b < 6 := a1
    rcases fact b a1 with hb | hb
    · refine ⟨⟨by omega, a1, hb.1⟩, by rw [← hb.2]; exact a2, fun m hm hx => ?_⟩
      rcases fact m hm.2.1 with h9 | h9
      · rw [← hb.2, ← h9.2]
        exact a3 m hm.2.1 (by rw [h9.2]; exact hx)
      · exact absurd h9.1 hm.2.2
    · exact absurd hb.2 a2
/-- lineStart: the class's answer and the reference's -/
theorem z_ls {g g' : Nat → Int32} {sz k : Nat} {r r' : Int32} (hk : k < 2 ^ 31) (hs : sz ≤ 2000) (hg : ∀ i, i < sz → g i = g' i) (h : zLS g sz k r) (h' : zLSx g' sz (nI k) r') : r = r' := by
  have e : ∀ p, p ≤ sz → znl g p = znl g' p := fun p hp => znl_congr (fun i hi => hg i (by omega))
  have w : ∀ p, p ≤ sz → (nI (znl g' p) = nI k ↔ znl g p = k) := fun p hp => by
    rw [← e p hp]
    have := znl_le g p
    exact nI_eq (by omega) hk
  rcases h with ⟨p, h1, rfl, h2, h3⟩ | ⟨rfl, h3⟩ <;> rcases h' with ⟨p', h1', rfl, h2', h3'⟩ | ⟨rfl, h3'⟩
  · by_cases ha : p < p'
    · exact absurd ((w p h1).mpr h2) (h3' p ha)
    · by_cases hb : p' < p
      · exact absurd ((w p' h1').mp h2') (h3 p' hb)
      · rw [show p = p' by omega]
  · exact absurd ((w p h1).mpr h2) (h3' p h1)
  · exact absurd ((w p' h1').mp h2') (h3 p' h1')
  · rfl
theorem z_ls0 {g : Nat → Int32} {sz : Nat} {r : Int32} (h : zLSx g sz (nI 0) r) : r = nI 0 := by
  rcases h with ⟨p, h1, rfl, h2, h3⟩ | ⟨rfl, h3⟩
  · by_cases hp : p = 0
    · rw [hp]
    · exact absurd rfl (h3 0 (by omega))
  · exact absurd rfl (h3 0 (by omega))
theorem z_lsn {g : Nat → Int32} {sz : Nat} {x r : Int32} (hx : x < 0) (hs : sz ≤ 2000) (h : zLSx g sz x r) : r = -1 := by
  rcases h with ⟨p, h1, rfl, h2, h3⟩ | ⟨rfl, h3⟩
  · have := znl_le g p
    exact absurd (h2 ▸ hx) (nI_pos (by omega))
  · rfl
theorem z_fnd {g g' s s' : Nat → Int32} {sz k p0 : Nat} {r r' : Int32} (hg : ∀ i, i < sz → g i = g' i) (hss : ∀ i, i < k → s i = s' i) (h : zFnd g sz s k p0 r) (h' : zFnd g' sz s' k p0 r') : r = r' := by
  have e : ∀ p, zHit g sz s k p ↔ zHit g' sz s' k p := fun p => by
    constructor
    · rintro ⟨h1, h2⟩
      exact ⟨h1, fun a ha => by rw [← hg _ (by omega), ← hss a ha]; exact h2 a ha⟩
    · rintro ⟨h1, h2⟩
      exact ⟨h1, fun a ha => by rw [hg _ (by omega), hss a ha]; exact h2 a ha⟩
  refine zFnd_one (g := g) (sz := sz) (s := s) (k := k) (p0 := p0) h ?_
  rcases h' with ⟨p, a1, a2, a3, a4⟩ | ⟨a1, a2⟩
  · exact Or.inl ⟨p, a1, (e p).mpr a2, a3, fun p' b1 b2 b3 => a4 p' b1 b2 ((e p').mp b3)⟩
  · exact Or.inr ⟨a1, fun p' b1 b2 => a2 p' b1 ((e p').mp b2)⟩
