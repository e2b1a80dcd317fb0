/-! the tree of versions: par, com (characters come), pl, mn (place, how many), pc (the piece), tz, tt (the text of a version) -/
def zTree (n : Nat) (par : Nat → Nat) (com : Nat → Bool) (pl mn : Nat → Nat) (pc : Nat → Nat → Int32) (tz : Nat → Nat) (tt : Nat → Nat → Int32) : Prop := tz 0 = 0 ∧ (∀ v, v < n → tz v ≤ 2000) ∧ ∀ v, 0 < v → v < n → par v < v ∧ zoK (com v) (pl v) (mn v) (tz (par v)) ∧ tz v = zoS (com v) (tz (par v)) (mn v) ∧ (∀ i, i < tz v → tt v i = zoT (com v) (tt (par v)) (pc v) (pl v) (mn v) (tz (par v)) i) ∧ (com v = false → ∀ i, i < mn v → pc v i = tt (par v) (pl v + i))
theorem zopen_in {g gp : Nat → Int32} {p c sz i : Nat} (h1 : p ≤ i) (h2 : i < p + c) : zopen g gp p c sz i = gp (i - p) := by
  unfold zopen va_cpy
  rw [if_pos ⟨h1, h2⟩, Nat.zero_add]
theorem zopen_hi {g gp : Nat → Int32} {p c sz i : Nat} (h1 : p + c ≤ i) (h2 : i < sz + c) (h3 : p ≤ sz) : zopen g gp p c sz i = g (i - c) := by
  unfold zopen va_cpy
  rw [if_neg (by omega), if_pos (by omega), show p + (i - (p + c)) = i - c by omega]
theorem zopen_lo {g gp : Nat → Int32} {p c sz i : Nat} (h1 : i < p) : zopen g gp p c sz i = g i := by
  unfold zopen va_cpy
  rw [if_neg (by omega), if_neg (by omega)]
theorem zclose_lo {g : Nat → Int32} {p c sz i : Nat} (h1 : i < p) : zclose g p c sz i = g i := by
  unfold zclose va_cpy
  rw [if_neg (by omega)]
theorem zclose_hi {g : Nat → Int32} {p c sz i : Nat} (h1 : p ≤ i) (h2 : i < sz - c) (h3 : p + c ≤ sz) : zclose g p c sz i = g (i + c) := by
  unfold zclose va_cpy
  rw [if_pos (by omega), show p + c + (i - p) = i + c by omega]
theorem zoT_congr {b : Bool} {tx t gp gq : Nat → Int32} {p c sz : Nat} (hk : zoK b p c sz) (h : ∀ i, i < sz → tx i = t i) (hg : b = true → ∀ i, i < c → gp i = gq i) : ∀ i, i < zoS b sz c → zoT b tx gp p c sz i = zoT b t gq p c sz i := by
  intro i hi
  cases b with
  | true =>
    have hk : p ≤ sz ∧ sz + c ≤ 2000 := hk
    have hi : i < sz + c := hi
    show zopen tx gp p c sz i = zopen t gq p c sz i
    by_cases h1 : i < p
    · rw [zopen_lo h1, zopen_lo h1, h i (by omega)]
    · by_cases h2 : i < p + c
      · rw [zopen_in (by omega) h2, zopen_in (by omega) h2, hg rfl _ (by omega)]
      · rw [zopen_hi (by omega) hi hk.1, zopen_hi (by omega) hi hk.1, h _ (by omega)]
  | false =>
    have hk : p + c ≤ sz ∧ sz ≤ 2000 := hk
    have hi : i < sz - c := hi
    show zclose tx p c sz i = zclose t p c sz i
    by_cases h1 : i < p
    · rw [zclose_lo h1, zclose_lo h1, h i (by omega)]
    · rw [zclose_hi (by omega) hi hk.1, zclose_hi (by omega) hi hk.1, h _ (by omega)]
section ZTree
variable {n : Nat} {par : Nat → Nat} {com : Nat → Bool} {pl mn : Nat → Nat} {pc : Nat → Nat → Int32} {tz : Nat → Nat} {tt : Nat → Nat → Int32}
theorem zTree.lt (T : zTree n par com pl mn pc tz tt) {v : Nat} (h0 : 0 < v) (h : v < n) : par v < v := (T.2.2 v h0 h).1
theorem zTree.ok (T : zTree n par com pl mn pc tz tt) {v : Nat} (h0 : 0 < v) (h : v < n) : zoK (com v) (pl v) (mn v) (tz (par v)) := (T.2.2 v h0 h).2.1
theorem zTree.sz (T : zTree n par com pl mn pc tz tt) {v : Nat} (h0 : 0 < v) (h : v < n) : tz v = zoS (com v) (tz (par v)) (mn v) := (T.2.2 v h0 h).2.2.1
/-- stepping on: the text of the parent gives the child's -/
theorem zTree.on (T : zTree n par com pl mn pc tz tt) {v : Nat} (h0 : 0 < v) (h : v < n) {tx gp : Nat → Int32} (hx : ∀ i, i < tz (par v) → tx i = tt (par v) i) (hg : com v = true → ∀ i, i < mn v → gp i = pc v i) : ∀ i, i < tz v → zoT (com v) tx gp (pl v) (mn v) (tz (par v)) i = tt v i := by
  intro i hi
  obtain ⟨-, hk, hs, ht, -⟩ := T.2.2 v h0 h
  rw [ht i hi]
  exact zoT_congr hk hx hg i (by rw [← hs]; exact hi)
/-- stepping back: the edit undone -/
theorem zTree.back (T : zTree n par com pl mn pc tz tt) {v : Nat} (h0 : 0 < v) (h : v < n) : zoK (!(com v)) (pl v) (mn v) (tz v) ∧ zoS (!(com v)) (tz v) (mn v) = tz (par v) ∧ ∀ (tx : Nat → Int32), (∀ i, i < tz v → tx i = tt v i) → ∀ i, i < tz (par v) → zoT (!(com v)) tx (pc v) (pl v) (mn v) (tz v) i = tt (par v) i := by
  obtain ⟨hlt, hk, hs, ht, hd⟩ := T.2.2 v h0 h
  have h2 := T.2.1 v h
  have h3 := T.2.1 (par v) (by omega)
  cases hb : com v with
  | true =>
    rw [hb] at hk hs ht
    have hk : pl v ≤ tz (par v) ∧ tz (par v) + mn v ≤ 2000 := hk
    have hs : tz v = tz (par v) + mn v := hs
    refine ⟨⟨by omega, h2⟩, by show tz v - mn v = _; omega, fun tx hx i hi => ?_⟩
    show zclose tx (pl v) (mn v) (tz v) i = _
    by_cases h1 : i < pl v
    · rw [zclose_lo h1, hx i (by omega), ht i (by omega)]
      show zopen _ _ _ _ _ _ = _
      rw [zopen_lo h1]
    · rw [zclose_hi (by omega) (by omega) (by omega), hx _ (by omega), ht _ (by omega)]
      show zopen _ _ _ _ _ _ = _
      rw [zopen_hi (by omega) (by omega) hk.1, show i + mn v - mn v = i by omega]
  | false =>
    rw [hb] at hk hs ht
    have hk : pl v + mn v ≤ tz (par v) ∧ tz (par v) ≤ 2000 := hk
    have hs : tz v = tz (par v) - mn v := hs
    refine ⟨⟨by omega, by omega⟩, by show tz v + mn v = _; omega, fun tx hx i hi => ?_⟩
    show zopen tx (pc v) (pl v) (mn v) (tz v) i = _
    by_cases h1 : i < pl v
    · rw [zopen_lo h1, hx i (by omega), ht i (by omega)]
      show zclose _ _ _ _ _ = _
      rw [zclose_lo h1]
    · by_cases h4 : i < pl v + mn v
      · rw [zopen_in (by omega) h4, hd hb _ (by omega), show pl v + (i - pl v) = i by omega]
      · rw [zopen_hi (by omega) (by omega) (by omega), hx _ (by omega), ht _ (by omega)]
        show zclose _ _ _ _ _ = _
        rw [zclose_hi (by omega) (by omega) hk.1, show i - mn v + mn v = i by omega]
end ZTree
/-- the way to the root: k steps up from v -/
def zit (par : Nat → Nat) (v : Nat) : Nat → Nat
  | 0 => v
  | k + 1 => par (zit par v k)
/-! marks: of six, set ones have the same place on both sides -/
def zMk (sz : Nat) (iset ma mp : Nat → Int32) : Prop := ∀ m, m < 6 → ∃ a : Nat, a ≤ sz ∧ ma m = nI a ∧ ((iset m = nI 1 ∧ mp m = nI a) ∨ (iset m = nI 0 ∧ mp m = -1))
theorem zoM_at {b : Bool} {p c m : Nat} {mp mr : Nat → Int32} (hm : m < 6) : zoM b p c mp mr m = if b then zcm (nI p) (nI c) (mp m) (mr m) else zgm (nI p) (nI c) (mp m) := by
  cases b <;> simp [zoM, zst, hm]
theorem z_m1_lt {n : Nat} (h : n < 2 ^ 31) : (-1 : Int32) < nI n := by
  rw [Int32.lt_iff_toInt_lt, nI_toInt h]
  show (-1 : Int) < _
  omega
theorem zcm_m1 {p : Nat} (hp : p < 2 ^ 31) {C r : Int32} : zcm (nI p) C (-1) r = -1 := by
  unfold zcm
  rw [if_neg]
  rintro (h | ⟨h, -⟩)
  · exact absurd h (z_not_lt (Int32.le_of_lt (z_m1_lt hp)))
  · exact absurd h.symm (z_m1 hp)
theorem zgm_m1 {p c : Nat} (hp : p + c < 2 ^ 31) : zgm (nI p) (nI c) (-1) = -1 := by
  unfold zgm
  rw [nI_add, if_neg (fun h => h (z_m1_lt hp)), if_neg (fun h => h (Int32.le_of_lt (z_m1_lt (by omega))))]
theorem zcm_nI {p c a : Nat} {r : Int32} (hp : p < 2 ^ 31) (ha : a < 2 ^ 31) : zcm (nI p) (nI c) (nI a) r = nI (if p < a ∨ (a = p ∧ ¬ r = 0) then a + c else a) := by
  unfold zcm
  by_cases h : p < a ∨ (a = p ∧ ¬ r = 0)
  · rw [if_pos h, if_pos, nI_add]
    exact h.elim (fun h => Or.inl (nI_lt h ha)) (fun h => Or.inr ⟨by rw [h.1], h.2⟩)
  · rw [if_neg h, if_neg]
    rintro (h1 | ⟨h1, h2⟩)
    · exact h (Or.inl ((nI_ltI hp ha).mp h1))
    · exact h (Or.inr ⟨(nI_eq ha hp).mp h1, h2⟩)
theorem zgm_nI {p c a : Nat} (hp : p + c < 2 ^ 31) (ha : a < 2 ^ 31) : zgm (nI p) (nI c) (nI a) = nI (if p + c ≤ a then a - c else if p < a then p else a) := by
  unfold zgm
  rw [nI_add]
  by_cases h : p + c ≤ a
  · rw [if_pos h, if_pos (nI_nlt h ha), pk_sub (by omega)]
  · rw [if_neg h, if_neg (fun h1 => h1 (nI_lt (by omega) hp))]
    by_cases h2 : p < a
    · rw [if_pos h2, if_pos (nI_ge h2 ha)]
    · rw [if_neg h2, if_neg (fun h1 => h1 (nI_le (by omega) (by omega)))]
theorem zMk.step {b : Bool} {p c sz : Nat} {iset ma mp mr mr' : Nat → Int32} (h : zMk sz iset ma mp) (hk : zoK b p c sz) (hr : ∀ m, m < 6 → mr m = mr' m) : zMk (zoS b sz c) iset (zoM b p c ma mr) (zoM b p c mp mr') := by
  intro m hm
  obtain ⟨a, ha, h1, h2⟩ := h m hm
  rw [zoM_at hm, zoM_at hm, h1, ← hr m hm]
  cases b with
  | true =>
    have hk : p ≤ sz ∧ sz + c ≤ 2000 := hk
    simp only [if_true]
    rw [zcm_nI (by omega) (by omega)]
    refine ⟨_, ?_, rfl, ?_⟩
    · show _ ≤ sz + c
      split <;> omega
    · rcases h2 with ⟨h3, h4⟩ | ⟨h3, h4⟩
      · exact Or.inl ⟨h3, by rw [h4, zcm_nI (by omega) (by omega)]⟩
      · exact Or.inr ⟨h3, by rw [h4, zcm_m1 (by omega)]⟩
  | false =>
    have hk : p + c ≤ sz ∧ sz ≤ 2000 := hk
    simp only [Bool.false_eq_true, if_false]
    rw [zgm_nI (by omega) (by omega)]
    refine ⟨_, ?_, rfl, ?_⟩
    · show _ ≤ sz - c
      split
      · omega
      · split <;> omega
    · rcases h2 with ⟨h3, h4⟩ | ⟨h3, h4⟩
      · exact Or.inl ⟨h3, by rw [h4, zgm_nI (by omega) (by omega)]⟩
      · exact Or.inr ⟨h3, by rw [h4, zgm_m1 (by omega)]⟩
