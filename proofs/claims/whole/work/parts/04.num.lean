abbrev rmD (d c n : Nat) : Room := { frames := d, cells := c, slots := n, locals := 40 * d }
/-! posts: a read with an exact answer, a write with an exact store, an answer with a property, a void with a property -/
def pRd (N : Nat) (q : Nat → Nat) (f : zF) (r : Int32) : zP := fun v N' q' f' => v = some (.int r) ∧ N' = N ∧ q' = q ∧ f' = f
def pW (N : Nat) (q : Nat → Nat) (f1 : zF) : zP := fun v N' q' f' => v = none ∧ N' = N ∧ q' = q ∧ f' = f1
def pI (N : Nat) (q : Nat → Nat) (P : Int32 → zF → Prop) : zP := fun v N' q' f' => ∃ r, v = some (.int r) ∧ N' = N ∧ q' = q ∧ P r f'
def pV (N : Nat) (q : Nat → Nat) (P : zF → Prop) : zP := fun v N' q' f' => v = none ∧ N' = N ∧ q' = q ∧ P f'
def pR (N : Nat) (q : Nat → Nat) (f : zF) (w : Value) : zP := fun v N' q' f' => v = some w ∧ N' = N ∧ q' = q ∧ f' = f
theorem kRd {G : zT} {k n pc : Nat} {lv : List (Option Value)} {st : List Value} {N : Nat} {q : Nat → Nat} {f : zF} {r : Int32} (h : G k n pc lv (.int r :: st) N q f) : ∀ (v : Option Value) (N' : Nat) (q' : Nat → Nat) (f' : zF), pRd N q f r v N' q' f' → G k n pc lv (v.toList ++ st) N' q' f' := by
  rintro v N' q' f' ⟨rfl, rfl, rfl, rfl⟩
  exact h
theorem kR {G : zT} {k n pc : Nat} {lv : List (Option Value)} {st : List Value} {N : Nat} {q : Nat → Nat} {f : zF} {w : Value} (h : G k n pc lv (w :: st) N q f) : ∀ (v : Option Value) (N' : Nat) (q' : Nat → Nat) (f' : zF), pR N q f w v N' q' f' → G k n pc lv (v.toList ++ st) N' q' f' := by
  rintro v N' q' f' ⟨rfl, rfl, rfl, rfl⟩
  exact h
theorem kW {G : zT} {k n pc : Nat} {lv : List (Option Value)} {st : List Value} {N : Nat} {q : Nat → Nat} {f1 : zF} (h : G k n pc lv st N q f1) : ∀ (v : Option Value) (N' : Nat) (q' : Nat → Nat) (f' : zF), pW N q f1 v N' q' f' → G k n pc lv (v.toList ++ st) N' q' f' := by
  rintro v N' q' f' ⟨rfl, rfl, rfl, rfl⟩
  exact h
theorem kI {G : zT} {k n pc : Nat} {lv : List (Option Value)} {st : List Value} {N : Nat} {q : Nat → Nat} {P : Int32 → zF → Prop} (h : ∀ (r : Int32) (f' : zF), P r f' → G k n pc lv (.int r :: st) N q f') : ∀ (v : Option Value) (N' : Nat) (q' : Nat → Nat) (f' : zF), pI N q P v N' q' f' → G k n pc lv (v.toList ++ st) N' q' f' := by
  rintro v N' q' f' ⟨r, rfl, rfl, rfl, hp⟩
  exact h r f' hp
theorem kV {G : zT} {k n pc : Nat} {lv : List (Option Value)} {st : List Value} {N : Nat} {q : Nat → Nat} {P : zF → Prop} (h : ∀ (f' : zF), P f' → G k n pc lv st N q f') : ∀ (v : Option Value) (N' : Nat) (q' : Nat → Nat) (f' : zF), pV N q P v N' q' f' → G k n pc lv (v.toList ++ st) N' q' f' := by
  rintro v N' q' f' ⟨rfl, rfl, rfl, hp⟩
  exact h f' hp
/-! numbers: x is none of 0 .. n -/
def zNo (x : Int32) (n : Nat) : Prop := x < 0 ∨ nI n < x
theorem z_posn (x : Int32) {n : Nat} (hn : n < 2 ^ 31) : (∃ p : Nat, p ≤ n ∧ x = nI p) ∨ zNo x n := by
  by_cases h : x < 0
  · exact Or.inr (Or.inl h)
  · obtain ⟨j, hj, rfl⟩ := nI_of h
    by_cases h2 : j ≤ n
    · exact Or.inl ⟨j, h2, rfl⟩
    · exact Or.inr (Or.inr (nI_lt (by omega) hj))
/-- neither a position x nor a count y behind it, of n -/
def zNoS (x y : Int32) (n : Nat) : Prop := zNo x n ∨ ∃ p : Nat, p ≤ n ∧ x = nI p ∧ zNo y (n - p)
theorem z_posS (x y : Int32) {n : Nat} (hn : n < 2 ^ 31) : (∃ p c : Nat, p + c ≤ n ∧ x = nI p ∧ y = nI c) ∨ zNoS x y n := by
  rcases z_posn x hn with ⟨p, hp, rfl⟩ | h
  · rcases z_posn y (n := n - p) (by omega) with ⟨c, hc, rfl⟩ | h
    · exact Or.inl ⟨p, c, by omega, rfl, rfl⟩
    · exact Or.inr (Or.inr ⟨p, hp, rfl, h⟩)
  · exact Or.inr (Or.inl h)
theorem nI_le_not {a b : Nat} (h : a < b) (hb : b < 2 ^ 31) : ¬ nI b ≤ nI a := nI_ge h hb
theorem z_le_of_not_lt {x y : Int32} (h : ¬ x < y) : y ≤ x := Int32.not_lt.mp h
theorem z_not_le {x y : Int32} (h : x < y) : ¬ y ≤ x := Int32.not_le.mpr h
theorem z_not_lt {x y : Int32} (h : x ≤ y) : ¬ y < x := Int32.not_lt.mpr h
theorem z_charN {x : Int32} (h : fits .char (.int x) = true) : vp_nar .char x = x := by
  have h1 : (0 : Int32) ≤ x ∧ x ≤ 65535 := by simpa [fits] using h
  have h2 : ¬ x < 0 := z_not_lt h1.1
  obtain ⟨j, hj, rfl⟩ := nI_of h2
  have h3 : j ≤ 65535 := by
    have := h1.2
    rw [show (65535 : Int32) = nI 65535 from rfl, nI_leI hj (by decide)] at this
    exact this
  have h4 := (pk_charN (q := j) (by omega)).1
  unfold vp_nar
  rw [h4]
/-- every value is a char -/
def zCh (g : Nat → Int32) : Prop := ∀ i, fits .char (.int (g i)) = true
theorem zCh.cpy {f g : Nat → Int32} {sp dp n : Nat} (hf : zCh f) (hg : zCh g) : zCh (va_cpy f g sp dp n) := fun i => by
  unfold va_cpy
  split
  · exact hf _
  · exact hg _
theorem zCh_upd {g : Nat → Int32} {k : Nat} {x : Int32} (hg : zCh g) (hx : fits .char (.int x) = true) : zCh (upd g k x) := fun i => by
  unfold upd
  split
  · exact hx
  · exact hg _
theorem zCh.z : zCh (fun _ => 0) := fun _ => by
  show fits .char (.int 0) = true
  decide
/-- newlines among the first n -/
def znl (g : Nat → Int32) : Nat → Nat
  | 0 => 0
  | n + 1 => znl g n + if g n = 10 then 1 else 0
theorem znl_le (g : Nat → Int32) : ∀ n, znl g n ≤ n
  | 0 => Nat.le_refl _
  | n + 1 => by
    have := znl_le g n
    unfold znl
    split <;> omega
theorem znl_nl {g : Nat → Int32} {n : Nat} (h : g n = 10) : znl g (n + 1) = znl g n + 1 := by
  show znl g n + _ = _
  rw [if_pos h]
theorem znl_no {g : Nat → Int32} {n : Nat} (h : ¬ g n = 10) : znl g (n + 1) = znl g n := by
  show znl g n + _ = _
  rw [if_neg h]
  rfl
theorem znl_mono (g : Nat → Int32) {a b : Nat} (h : a ≤ b) : znl g a ≤ znl g b := by
  induction h with
  | refl => exact Nat.le_refl _
  | step _ ih =>
    refine Nat.le_trans ih ?_
    show _ ≤ znl g _ + _
    omega
theorem znl_congr {g h : Nat → Int32} : ∀ {n : Nat}, (∀ i, i < n → g i = h i) → znl g n = znl h n
  | 0, _ => rfl
  | n + 1, e => by
    show znl g n + _ = znl h n + _
    rw [znl_congr (fun i hi => e i (by omega)), e n (by omega)]
