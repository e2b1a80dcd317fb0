/-! a version is added -/
theorem zcc_congr {pa pb : Nat → Int32} {t : Nat} : ∀ {u : Nat}, (∀ v, v < u → pa v = pb v) → zcc pa t u = zcc pb t u
  | 0, _ => rfl
  | u + 1, h => by
    show zcc pa t u + _ = zcc pb t u + _
    rw [zcc_congr (fun v hv => h v (by omega)), h u (by omega)]
theorem zlt_congr {pa pb : Nat → Int32} {t : Nat} : ∀ {u : Nat}, (∀ v, v < u → pa v = pb v) → zlt pa t u = zlt pb t u
  | 0, _ => rfl
  | u + 1, h => by
    show (if _ then _ else zlt pa t u) = (if _ then _ else zlt pb t u)
    rw [zlt_congr (fun v hv => h v (by omega)), h u (by omega)]
theorem zcc_none {pa : Nat → Int32} {t : Nat} : ∀ {u : Nat}, (∀ v, 0 < v → v < u → pa v ≠ nI t) → zcc pa t u = 0
  | 0, _ => rfl
  | u + 1, h => by
    show zcc pa t u + _ = 0
    rw [zcc_none (fun v h0 hv => h v h0 (by omega)), if_neg (fun h1 => h u h1.1 (by omega) h1.2)]
theorem zlt_none {pa : Nat → Int32} {t : Nat} : ∀ {u : Nat}, (∀ v, 0 < v → v < u → pa v ≠ nI t) → zlt pa t u = none
  | 0, _ => rfl
  | u + 1, h => by
    show (if _ then _ else zlt pa t u) = none
    rw [zlt_none (fun v h0 hv => h v h0 (by omega)), if_neg (fun h1 => h u h1.1 (by omega) h1.2)]
theorem zlt_some {pa : Nat → Int32} {t w : Nat} : ∀ {u : Nat}, zlt pa t u = some w → 0 < w ∧ w < u ∧ pa w = nI t
  | 0, h => by cases h
  | u + 1, h => by
    by_cases hc : 0 < u ∧ pa u = nI t
    · have h1 : zlt pa t (u + 1) = some u := if_pos hc
      rw [h1] at h
      cases h
      exact ⟨hc.1, by omega, hc.2⟩
    · have h1 : zlt pa t (u + 1) = zlt pa t u := if_neg hc
      rw [h1] at h
      obtain ⟨a, b, c⟩ := zlt_some h
      exact ⟨a, by omega, c⟩
theorem zver_q {q q' : Nat → Nat} {num at_ jp cc : Nat} {pr lat : Value} {com : Int32} (h : q' jp = q jp) : zver q num pr com at_ jp cc lat = zver q' num pr com at_ jp cc lat := by
  simp only [zver, h]
section ZNew
variable {l : Launch} {D : va_G} {cI cC cZ cV : ClassId} {N N' : Nat} {q q' : Nat → Nat} {f f' : zF} {n ins ins' a k : Nat} {par : Nat → Nat} {com : Nat → Bool} {tp tc : Nat → Nat} {tq : Nat → Nat → Int32} {tz : Nat → Nat} {tt : Nat → Nat → Int32} {cn : Nat → Nat} {lat : Nat → Value} {mp mr sc pa iset ma mr2 sc2 : Nat → Int32} {b : Bool} {p c : Nat} {gp : Nat → Int32}
theorem zTree.new (T : zTree n par com tp tc tq tz tt) (hn : 0 < n) (ha : a < n) (hk : zoK b p c (tz a)) (hg : b = false → ∀ i, i < c → gp i = tt a (p + i)) : zTree (n + 1) (va_up par n a) (va_up com n b) (va_up tp n p) (va_up tc n c) (va_up tq n gp) (va_up tz n (zoS b (tz a) c)) (va_up tt n (zoT b (tt a) gp p c (tz a))) := by
  have hza := T.2.1 a ha
  refine ⟨(up_ne (by omega) T.1), fun v hv => ?_, fun v h0 hv => ?_⟩
  · by_cases h : v = n
    · subst h
      rw [up_eq]
      cases b with
      | true => exact hk.2
      | false => show tz a - c ≤ 2000; omega
    · rw [up_ne' h]
      exact T.2.1 v (by omega)
  · by_cases h : v = n
    · subst h
      simp only [up_eq]
      rw [up_ne' (show a ≠ v by omega), up_ne' (show a ≠ v by omega)]
      exact ⟨ha, hk, rfl, fun i hi => rfl, hg⟩
    · have hp := T.lt h0 (show v < n by omega)
      simp only [up_ne' h]
      rw [up_ne' (show par v ≠ n by omega), up_ne' (show par v ≠ n by omega)]
      exact T.2.2 v h0 (by omega)
theorem zMT.ext {n' : Nat} {par' : Nat → Nat} {com' : Nat → Bool} {tp' tc' : Nat → Nat} {tq' : Nat → Nat → Int32} {co pl mn fi pool : Nat → Int32} (M : zMT n par com tp tc tq pa co pl mn fi pool) (h : ∀ v, v < n → par' v = par v ∧ com' v = com v ∧ tp' v = tp v ∧ tc' v = tc v ∧ tq' v = tq v) : zMT n par' com' tp' tc' tq' pa co pl mn fi pool := fun v h0 hv => by
  obtain ⟨e1, e2, e3, e4, e5⟩ := h v hv
  rw [e1, e2, e3, e4, e5]
  exact M v h0 hv
theorem zPool.ext {com' : Nat → Bool} {tc' : Nat → Nat} {tq' : Nat → Nat → Int32} {fi pool : Nat → Int32} {po : Nat} (L : zPool n com tc tq fi pool po) (h : ∀ v, v < n → com' v = com v ∧ tc' v = tc v ∧ tq' v = tq v) : zPool n com' tc' tq' fi pool po := fun v h0 hv => by
  obtain ⟨e2, e4, e5⟩ := h v hv
  rw [e2, e4, e5]
  exact L v h0 hv
theorem zIM.adr (C : zIM cI cC cZ q f n ins a k par com tp tc tq tz tt pa iset ma mr sc) (h : ∀ j, j < 23 → q' j = q j) : zIM cI cC cZ q' f n ins a k par com tp tc tq tz tt pa iset ma mr sc := by
  obtain ⟨c1, c2⟩ := C
  refine ⟨?_, c2⟩
  rw [c1]
  simp only [zmo, h 11 (by omega), h 12 (by omega), h 13 (by omega), h 14 (by omega), h 15 (by omega), h 16 (by omega), h 17 (by omega), h 18 (by omega), h 19 (by omega), h 20 (by omega), h 21 (by omega), h 22 (by omega)]
theorem zIC.new (C : zIC cI cC cZ cV N q f n ins a k par com tp tc tq tz tt cn lat mp mr sc) (P : zIP q n ins a k par com tp tc tq tz tt cn lat mp mr sc pa iset ma mr2 sc2) (hk : zoK b p c (tz a)) (hgc : zCh gp) {tx : Nat → Int32} (htx : zCh tx) (hag : ∀ i, i < tz a → tx i = tt a i) {md : Nat → Option Nat} (hmd : ∀ v, v < n → md v = some (q (24 + 2 * v))) (hn : n < 122)
    (Nw : zNewP cC cI cV N q f n ins' (24 + 2 * a) a (tp a) (23 + 2 * a) (cn a) (zbi (com a)) (if a = 0 then .null else .ref (q (24 + 2 * par a))) b p c (tz a) gp tx mp mr md N' q' f') : (∀ j, j < N → q' j = q j) ∧ zIC cI cC cZ cV N' q' f' (n + 1) ins' n k (va_up par n a) (va_up com n b) (va_up tp n p) (va_up tc n c) (va_up tq n gp) (va_up tz n (zoS b (tz a) c)) (va_up tt n (zoT b (tt a) gp p c (tz a))) (va_up (va_up cn a (cn a + 1)) n 0) (va_up (va_up lat a (.ref (q' (24 + 2 * n)))) n .null) (zoM b p c mp mr) mr sc := by
  obtain ⟨c1, -, c3, c4, c5, c6, c7, -, ⟨wo, c9⟩, V⟩ := C
  obtain ⟨p1, p2, ha, p4, p5, hp0, T, -⟩ := P
  obtain ⟨rfl, ⟨a1, a2, rfl⟩, w1, w2, w3, w4, w5, w6, w7, w8, w9⟩ := Nw
  have qe : ∀ j, j < N → va_up (va_up q N a1) (N + 1) a2 j = q j := fun j hj => by rw [up_ne' (by omega), up_ne' (by omega)]
  generalize va_up (va_up q N a1) (N + 1) a2 = q' at *
  refine ⟨qe, ?_⟩
  subst c1
  have fr := fun jj (x : jj < 23 + 2 * n ∧ 2 < jj ∧ jj ≠ 6 ∧ jj ≠ 8 ∧ jj ≠ 24 + 2 * a) => w9 jj x.1 x.2.1 x.2.2.1 x.2.2.2.1 x.2.2.2.2
  have hN1 : 23 + 2 * n + 1 = 24 + 2 * n := by omega
  rw [hN1] at w2 w3 w4 w5
  refine ⟨by omega, ⟨w4, by rw [up_eq]; exact w7, ⟨_, w6, ?_, fun i hi => ?_⟩, w8⟩, ?_, (fr 4 (by omega)).trans c4, c5, ?_, (fr 7 (by omega)).trans c7, ⟨_, w3, fun v hv => ?_⟩, ⟨wo, (fr 9 (by omega)).trans c9⟩, fun v hv => ?_⟩
  · unfold zoT
    split
    · exact zCh.cpy hgc (zCh.cpy htx htx)
    · exact zCh.cpy htx htx
  · rw [up_eq] at hi ⊢
    exact zoT_congr hk hag (fun _ i _ => rfl) i hi
  · rw [fr 3 (by omega), c3]
    simp only [zrow, qe 4 (by omega)]
  · rw [fr 5 (by omega), c6, qe 6 (by omega), qe 7 (by omega)]
  · by_cases h : v = n
    · rw [h, up_eq]
    · rw [up_ne' h, hmd v (by omega), qe _ (by omega)]
  · by_cases h : v = n
    · subst h
      simp only [up_eq]
      rw [if_neg (by omega)]
      exact ⟨w2, w1, hgc⟩
    · have hv : v < n := by omega
      have hpv : 0 < v → par v < v := fun h0 => T.lt h0 hv
      obtain ⟨x1, x2, x3⟩ := V v hv
      have hpr : (if v = 0 then Value.null else .ref (q (24 + 2 * par v))) = (if v = 0 then .null else .ref (q' (24 + 2 * par v))) := by
        by_cases h0 : v = 0
        · rw [if_pos h0, if_pos h0]
        · rw [if_neg h0, if_neg h0, qe _ (by have := hpv (by omega); omega)]
      simp only [up_ne' h]
      refine ⟨?_, (fr _ (by omega)).trans x2, x3⟩
      by_cases hva : v = a
      · subst hva
        rw [up_eq, up_eq, w5, hpr]
      · rw [up_ne' hva, up_ne' hva, fr _ (by omega), x1, hpr]
        exact zver_q (qe _ (by omega))
theorem zIM.new {fE : zF} {co pl mn fi pool tx : Nat → Int32} (hP : zIP q n ins a k par com tp tc tq tz tt cn lat mp mr sc pa iset ma mr2 sc2) (g15 : fE 15 = .inl (cI, 122, .inl fi)) (g16 : fE 16 = .inl (cC, 2000, .inl pool)) (g19 : fE 19 = .inl (cC, 40, .inl sc2)) (hsc2 : zCh sc2) (g20 : fE 20 = .inl (cZ, 6, .inl iset)) (g22 : fE 22 = .inl (cZ, 6, .inl mr2)) (hpool : zCh pool)
    (M : zMT n par com tp tc tq pa co pl mn fi pool) (L : zPool (n + 1) (va_up com n b) (va_up tc n c) (va_up tq n gp) fi pool ins') (hi : ins' ≤ 2000)
    (Ed : zEd cC cI cZ q' n ins' a k b p c (va_up tz n (zoS b (tz a) c)) (va_up tt n (zoT b (tt a) gp p c (tz a))) pa co pl mn (zoM b p c ma mr2) fE f') : zIM cI cC cZ q' f' (n + 1) ins' n k (va_up par n a) (va_up com n b) (va_up tp n p) (va_up tc n c) (va_up tq n gp) (va_up tz n (zoS b (tz a) c)) (va_up tt n (zoT b (tt a) gp p c (tz a))) (upd pa n (nI a)) iset (zoM b p c ma mr2) mr2 sc2 := by
  obtain ⟨⟨g, w, m1, m2, m3, m4, m5⟩, m6, m7, m8, m9, m10, m11⟩ := Ed
  have h := fun jj (x : jj ≠ 10 ∧ jj ≠ 17 ∧ jj ≠ 18 ∧ jj ≠ 21 ∧ jj ≠ 11 ∧ jj ≠ 12 ∧ jj ≠ 13 ∧ jj ≠ 14) => m11 jj x.1 x.2.1 x.2.2.1 x.2.2.2.1 x.2.2.2.2.1 x.2.2.2.2.2.1 x.2.2.2.2.2.2.1 x.2.2.2.2.2.2.2
  refine ⟨m1, m7, (h 19 (by omega)).trans g19, hsc2, (h 20 (by omega)).trans g20, m6, (h 22 (by omega)).trans g22, _, _, _, fi, pool, g, w, m8, m9, m10, (h 15 (by omega)).trans g15, (h 16 (by omega)).trans g16, m2, m3, ?_, L, hpool, m4, m5⟩
  intro v h0 hv
  by_cases hvn : v = n
  · subst hvn
    simp only [up_eq]
    refine ⟨pk_us, pk_us, pk_us, pk_us, fun hc => ?_⟩
    obtain ⟨x, k1, k2, k3⟩ := L v h0 hv (by rw [up_eq]; exact hc)
    rw [up_eq] at k2 k3
    rw [up_eq] at k3
    exact ⟨x, k1, by omega, k3⟩
  · obtain ⟨e1, e2, e3, e4, e5⟩ := M v h0 (by omega)
    simp only [up_ne' hvn]
    exact ⟨(pk_un hvn).trans e1, (pk_un hvn).trans e2, (pk_un hvn).trans e3, (pk_un hvn).trans e4, e5⟩
theorem zIP.new (P : zIP q n ins a k par com tp tc tq tz tt cn lat mp mr sc pa iset ma mr2 sc2) (hpa : ∀ v, 0 < v → v < n → pa v = nI (par v)) (hk : zoK b p c (tz a)) (hg : b = false → ∀ i, i < c → gp i = tt a (p + i)) (hn : n < 122) (hi : ins' ≤ 2000) (hii : ins ≤ ins') (hz : zoS b (tz a) c ≤ ins') (hq : ∀ j, j < 23 + 2 * n → q' j = q j) : zIP q' (n + 1) ins' n k (va_up par n a) (va_up com n b) (va_up tp n p) (va_up tc n c) (va_up tq n gp) (va_up tz n (zoS b (tz a) c)) (va_up tt n (zoT b (tt a) gp p c (tz a))) (va_up (va_up cn a (cn a + 1)) n 0) (va_up (va_up lat a (.ref (q' (24 + 2 * n)))) n .null) (zoM b p c mp mr) mr sc (upd pa n (nI a)) iset (zoM b p c ma mr2) mr2 sc2 := by
  obtain ⟨p1, p2, ha, p4, p5, hp0, T, p8, p9, p10, p11, p12⟩ := P
  refine ⟨by omega, by omega, by omega, hi, p5, (up_ne (by omega) hp0), T.new (by omega) ha hk hg, fun v hv => ?_, fun v hv => ?_, p10, ?_, p12⟩
  · by_cases h : v = n
    · rw [h, up_eq]; exact hz
    · rw [up_ne' h]
      exact Nat.le_trans (p8 v (by omega)) hii
  · have hag : ∀ u, u < n → upd pa n (nI a) u = pa u := fun u hu => pk_un (by omega)
    have hc1 : zcc (upd pa n (nI a)) v (n + 1) = zcc pa v n + if a = v then 1 else 0 := by
      show zcc _ v n + _ = _
      rw [zcc_congr hag]
      congr 1
      have : (upd pa n (nI a)) n = nI a := pk_us
      by_cases hav : a = v
      · rw [if_pos ⟨by omega, by rw [this, hav]⟩, if_pos hav]
      · rw [if_neg (fun h => hav ((nI_eq (by omega) (by omega)).mp (this.symm.trans h.2))), if_neg hav]
    have hl1 : zlt (upd pa n (nI a)) v (n + 1) = if a = v then some n else zlt pa v n := by
      show (if _ then _ else _) = _
      rw [zlt_congr hag]
      have : (upd pa n (nI a)) n = nI a := pk_us
      by_cases hav : a = v
      · rw [if_pos ⟨by omega, by rw [this, hav]⟩, if_pos hav]
      · rw [if_neg (fun h => hav ((nI_eq (by omega) (by omega)).mp (this.symm.trans h.2))), if_neg hav]
    rw [hc1, hl1]
    by_cases h : v = n
    · subst h
      have hno : ∀ u, 0 < u → u < v → pa u ≠ nI v := fun u h0 hu e => by
        rw [hpa u h0 hu] at e
        have := (nI_eq (by have := T.lt h0 hu; omega) (by omega)).mp e
        have := T.lt h0 hu
        omega
      rw [up_eq, up_eq, if_neg (by omega), if_neg (by omega), zcc_none hno, zlt_none hno]
      exact ⟨rfl, rfl⟩
    · rw [up_ne' h, up_ne' h]
      by_cases hva : v = a
      · subst hva
        rw [up_eq, up_eq, if_pos rfl, if_pos rfl, (p9 v ha).1]
        exact ⟨rfl, rfl⟩
      · rw [up_ne' hva, up_ne' hva, if_neg (fun h => hva h.symm), if_neg (fun h => hva h.symm), (p9 v (by omega)).1, (p9 v (by omega)).2]
        refine ⟨rfl, ?_⟩
        cases hl : zlt pa v n with
        | none => rfl
        | some u =>
          have hu := zlt_some hl
          show va_rf (some (q (24 + 2 * u))) = va_rf (some (q' (24 + 2 * u)))
          rw [hq _ (by omega)]
  · rw [up_eq]
    exact p11.step hk (fun m hm => (p12 m hm).symm)
end ZNew
