/-! The cells of the system and of the reference, by pieces. -/
/-- an int array's cell, a boolean's, a char's -/
abbrev cI (G : va_G) (a n : Nat) (f : Nat → Int32) : Nat × va_E := (a, .inl (G.1 10, n, .inl f))
abbrev cZ (G : va_G) (a n : Nat) (f : Nat → Int32) : Nat × va_E := (a, .inl (G.1 11, n, .inl f))
abbrev cC (G : va_G) (a n : Nat) (f : Nat → Int32) : Nat × va_E := (a, .inl (G.1 12, n, .inl f))
def wD (G : va_G) (a : Nat → Nat) (w f r e : Nat → Int32) : va_W := [(a 0, .inr (1, [.ref (a 1), .ref (a 2), .ref (a 3), .ref (a 4)])), cI G (a 1) 12 w, cI G (a 2) 12 f, cI G (a 3) 12 r, cI G (a 4) 12 e]
def wL (G : va_G) (a : Nat → Nat) (k p g m : Nat → Int32) (sz vo : Int32) : va_W := [(a 0, .inr (2, [.ref (a 1), .ref (a 2), .ref (a 3), .ref (a 4), .int sz, .int vo])), cI G (a 1) 512 k, cI G (a 2) 512 p, cI G (a 3) 512 g, cI G (a 4) 512 m]
def wT (G : va_G) (a : Nat → Nat) (h r m b d g l : Nat → Int32) (n : Int32) : va_W := [(a 0, .inr (3, [.ref (a 1), .ref (a 2), .ref (a 3), .ref (a 4), .ref (a 5), .ref (a 6), .ref (a 7), .int n])), cI G (a 1) 12 h, cI G (a 2) 12 r, cI G (a 3) 12 m, cI G (a 4) 12 b, cZ G (a 5) 12 d, cI G (a 6) 12 g, cZ G (a 7) 12 l]
/-- the gate itself: a the gate, its keepers, its thresholds; d, t, u, g: desk, ties, tiesAnew, log -/
def wG (G : va_G) (a d t u g : Nat → Nat) (k h : Nat → Int32) (n : Int32) : va_W := [(a 0, .inr (4, [.ref (d 0), .ref (t 0), .ref (u 0), .ref (g 0), .ref (a 1), .ref (a 2), .int n])), cI G (a 1) 4 k, cI G (a 2) 4 h]
def wM (G : va_G) (a : Nat → Nat) (mi : Int32) (wo fa re en bY bg lo : Nat → Int32) (nb vo : Int32) (ho ro we wi ba kp th sg : Nat → Int32) (ns tw : Int32) : va_W :=
  [(a 0, .inr (5, [.int mi, .ref (a 1), .ref (a 2), .ref (a 3), .ref (a 4), .ref (a 5), .ref (a 6), .ref (a 7), .int nb, .int vo, .ref (a 8), .ref (a 9), .ref (a 10), .ref (a 11), .ref (a 12), .ref (a 13), .ref (a 14), .ref (a 15), .int ns, .int tw])),
   cI G (a 1) 12 wo, cI G (a 2) 12 fa, cI G (a 3) 12 re, cI G (a 4) 12 en, cI G (a 5) 12 bY, cI G (a 6) 12 bg, cZ G (a 7) 12 lo, cI G (a 8) 100 ho, cI G (a 9) 100 ro, cI G (a 10) 100 we, cI G (a 11) 100 wi, cZ G (a 12) 100 ba, cI G (a 13) 4 kp, cI G (a 14) 4 th, cC G (a 15) 16 sg]
/-- the law's own long[1] -/
def wO (G : va_G) (a : Nat → Nat) (o : Nat → Int64) : va_W := [(a 0, .inl (G.1 13, 1, .inr (.inl o)))]
/-- a StringBuilder, and its 16 bytes -/
def wSo (G : va_G) (a b : Nat → Nat) (co ml n : Int32) : va_W := [(a 0, .inr (0, [.ref (b 0), .int co, .int ml, .int n]))]
def wB (G : va_G) (b : Nat → Nat) (f : Nat → Int32) : va_W := [(b 0, .inl (G.1 14, 16, .inl f))]
/-! small facts for the walks -/
theorem vp_lt {x : Int32} {n : Nat} (h : vp_in x n) : x.toNatClampNeg < n := Nat.not_le.mp fun q => h (Or.inr q)
/-- a counter up to N, with fuel -/
theorem cnt_in {x M : Int32} {N n : Nat} (hM : M = nI N) (hN : N < 1073741824) (hI : x = nI (N + 1 - (n + 1)) ∧ 1 ≤ n + 1 ∧ n + 1 ≤ N + 1) (c : ¬ M ≤ x) : vp_in x N ∧ x + 1 = nI (N + 1 - n) ∧ 1 ≤ n ∧ n ≤ N + 1 := by
  obtain ⟨e, -, h2⟩ := hI
  subst hM; subst e
  have h3 : N + 1 - (n + 1) = N - n := by omega
  rw [h3] at c ⊢
  have h4 : 1 ≤ n := by
    rcases Nat.eq_zero_or_pos n with h | h
    · subst h
      exact absurd (nI_le (Nat.le_refl N) (by omega)) c
    · exact h
  refine ⟨vp_in_nI (by omega) (by omega), ?_, h4, by omega⟩
  rw [nI_1]
  congr 1
  omega
/-- a person, or nobody -/
abbrev inN (x : Int32) : Prop := x = -1 ∨ vp_in x 12
theorem inN_ge {x : Int32} (h : inN x) (c : ¬ x < 4) : vp_in x 12 := by
  rcases h with rfl | h
  · exact absurd (by decide) c
  · exact h
theorem vp_in_of2 {x M : Int32} {N : Nat} (hM : M = nI N) (hN : N < 1073741824) (h0 : ¬ x < 0) (c : ¬ M ≤ x) : vp_in x N := by
  subst hM
  obtain ⟨j, hj, rfl⟩ := nI_of h0
  rcases Nat.lt_or_ge j N with h | h
  · exact vp_in_nI h (by omega)
  · exact absurd (nI_le h hj) c
theorem vp_mono {x : Int32} {n m : Nat} (h : vp_in x n) (hm : n ≤ m) : vp_in x m := fun q => h (q.imp_right (fun z => Nat.le_trans hm z))
/-- an event of the log that can be replayed -/
abbrev evOK (lk lp lg : Nat → Int32) (j : Nat) : Prop := (lk j = 0 → vp_in (lp j) 12 ∧ vp_in (lg j) 12) ∧ (lk j = 1 → vp_in (lg j) 12) ∧ (¬ lk j = 0 → ¬ lk j = 1 → vp_in (lp j) 12)
theorem vp_in_of3 {x M : Int32} {N : Nat} (hM : M = nI N) (hN : N < 1073741824) (h0 : ¬ x < 0) (c : x < M) : vp_in x N := vp_in_of2 hM hN h0 (fun h => by
  rw [Int32.le_iff_toInt_le] at h
  rw [Int32.lt_iff_toInt_lt] at c
  omega)
