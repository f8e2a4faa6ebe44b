/-! ### the order of the endings -/
def zct (P : Nat → Prop) [DecidablePred P] : Nat → Nat
  | 0 => 0
  | n + 1 => zct P n + (if P n then 1 else 0)
theorem zct_le (P Q : Nat → Prop) [DecidablePred P] [DecidablePred Q] (h : ∀ j, P j → Q j) : ∀ n, zct P n ≤ zct Q n
  | 0 => Nat.le_refl _
  | n + 1 => by
    have h1 := zct_le P Q h n
    unfold zct
    by_cases c : P n
    · rw [if_pos c, if_pos (h n c)]; omega
    · rw [if_neg c]; omega
theorem zct_lt (P Q : Nat → Prop) [DecidablePred P] [DecidablePred Q] (h : ∀ j, P j → Q j) (i : Nat) (hQ : Q i) (hP : ¬ P i) : ∀ n, i < n → zct P n < zct Q n
  | 0, h0 => absurd h0 (Nat.not_lt_zero _)
  | n + 1, h0 => by
    unfold zct
    by_cases c : i = n
    · subst c
      rw [if_neg hP, if_pos hQ]
      have := zct_le P Q h i
      omega
    · have h1 := zct_lt P Q h i hQ hP n (by omega)
      by_cases c : P n
      · rw [if_pos c, if_pos (h n c)]; omega
      · rw [if_neg c]; omega
theorem zct_bd (P : Nat → Prop) [DecidablePred P] : ∀ n, zct P n ≤ n
  | 0 => Nat.le_refl _
  | n + 1 => by
    have := zct_bd P n
    unfold zct
    split <;> omega
/-- j is in a session that ends ahead of i's -/
abbrev ahd (de : Nat → Int32) (mi : Int32) (i j : Nat) : Prop := ¬ de j ≤ mi ∧ (de j < de i ∨ (de j = de i ∧ j < i))
theorem ahd_g (de : Nat → Int32) (mi : Int32) (i : Nat) (hi : i < 12) : ∀ (n k : Nat) (c : Nat), n + k = 13 → FX0_countEndingAheadOf_5_x3 n (nI (c + zct (ahd de mi i) k)) (nI k) de (nI i) mi = if n = 0 then 0 else nI (c + zct (ahd de mi i) 12)
  | 0, k, c, h => rfl
  | n + 1, k, c, h => by
    unfold FX0_countEndingAheadOf_5_x3
    rw [if_neg (show ¬ n + 1 = 0 by omega)]
    by_cases e : k = 12
    · subst e; rw [if_pos zc_12e]
    · have hn : ¬ n = 0 := by omega
      rw [if_neg (zc_12 (by omega)), nI_1]
      have ih := ahd_g de mi i hi n (k + 1) c (by omega)
      rw [if_neg hn] at ih
      have hs : zct (ahd de mi i) (k + 1) = zct (ahd de mi i) k + (if ahd de mi i k then 1 else 0) := rfl
      unfold f_X0_isInSession_r f_X0_endsAheadOf_r
      rw [zc_nat (n := k) (by omega), zc_nat (n := i) (by omega)]
      by_cases c1 : de k ≤ mi
      · rw [if_pos c1, if_pos rfl]
        rw [hs, if_neg (fun q : ahd de mi i k => q.1 c1)] at ih
        exact ih
      · rw [if_neg c1, if_neg (show ¬ (1 : Int32) = 0 by decide)]
        by_cases c2 : de k = de i
        · rw [if_pos c2]
          by_cases c3 : nI i ≤ nI k
          · rw [if_pos c3, if_pos rfl]
            have c4 := (nI_leI (a := i) (b := k) (by omega) (by omega)).mp c3
            rw [hs, if_neg (fun q : ahd de mi i k => by
              rcases q.2 with q | q
              · rw [c2, Int32.lt_iff_toInt_lt] at q; omega
              · omega)] at ih
            exact ih
          · rw [if_neg c3, if_neg (show ¬ (1 : Int32) = 0 by decide), nI_1]
            have c4 : k < i := by
              have := mt (nI_leI (a := i) (b := k) (by omega) (by omega)).mpr c3
              omega
            rw [hs, if_pos (show ahd de mi i k from ⟨c1, Or.inr ⟨c2, c4⟩⟩)] at ih
            exact ih
        · rw [if_neg c2]
          by_cases c3 : de i ≤ de k
          · rw [if_pos c3, if_pos rfl]
            rw [hs, if_neg (fun q : ahd de mi i k => by
              rcases q.2 with q | q
              · rw [Int32.lt_iff_toInt_lt] at q; rw [Int32.le_iff_toInt_le] at c3; omega
              · exact c2 q.1)] at ih
            exact ih
          · rw [if_neg c3, if_neg (show ¬ (1 : Int32) = 0 by decide), nI_1]
            rw [hs, if_pos (show ahd de mi i k from ⟨c1, Or.inl (Int32.not_le.mp c3)⟩)] at ih
            exact ih
theorem ahd_m (de : Nat → Int32) (mi : Int32) (i : Nat) (hi : i < 12) : ∀ (n k : Nat) (c : Nat), n + k = 13 → FX4_ending_36_x4 n (nI (c + zct (ahd de mi i) k)) (nI k) mi de (nI i) = if n = 0 then 0 else nI (c + zct (ahd de mi i) 12)
  | 0, k, c, h => rfl
  | n + 1, k, c, h => by
    unfold FX4_ending_36_x4
    rw [if_neg (show ¬ n + 1 = 0 by omega)]
    by_cases e : k = 12
    · subst e; rw [if_pos zc_12e]
    · have hn : ¬ n = 0 := by omega
      rw [if_neg (zc_12 (by omega)), nI_1, Int32.add_zero]
      have ih := ahd_m de mi i hi n (k + 1) c (by omega)
      rw [if_neg hn] at ih
      have hs : zct (ahd de mi i) (k + 1) = zct (ahd de mi i) k + (if ahd de mi i k then 1 else 0) := rfl
      unfold f_X4_isIn_r
      rw [zc_nat (n := k) (by omega), zc_nat (n := i) (by omega)]
      by_cases c1 : de k ≤ mi
      · rw [if_pos c1, if_pos rfl]
        rw [hs, if_neg (fun q : ahd de mi i k => q.1 c1)] at ih
        exact ih
      · rw [if_neg c1, if_neg (show ¬ (1 : Int32) = 0 by decide)]
        by_cases c3 : de k < de i
        · rw [if_pos c3, nI_1]
          rw [hs, if_pos (show ahd de mi i k from ⟨c1, Or.inl c3⟩)] at ih
          exact ih
        · rw [if_neg c3]
          by_cases c2 : de k = de i
          · rw [if_pos c2]
            by_cases c5 : nI i ≤ nI k
            · rw [if_pos c5]
              have c4 := (nI_leI (a := i) (b := k) (by omega) (by omega)).mp c5
              rw [hs, if_neg (fun q : ahd de mi i k => by
                rcases q.2 with q | q
                · exact c3 q
                · omega)] at ih
              exact ih
            · rw [if_neg c5, nI_1]
              have c4 : k < i := by
                have := mt (nI_leI (a := i) (b := k) (by omega) (by omega)).mpr c5
                omega
              rw [hs, if_pos (show ahd de mi i k from ⟨c1, Or.inr ⟨c2, c4⟩⟩)] at ih
              exact ih
          · rw [if_neg c2]
            rw [hs, if_neg (fun q : ahd de mi i k => by
              rcases q.2 with q | q
              · exact c3 q
              · exact c2 q.1)] at ih
            exact ih
theorem ahd_gv (de : Nat → Int32) (mi : Int32) (i : Nat) (hi : i < 12) : f_X0_countEndingAheadOf_r de (nI i) mi = nI (zct (ahd de mi i) 12) := by
  have := ahd_g de mi i hi 13 0 0 rfl
  rw [if_neg (by decide), Nat.zero_add, Nat.zero_add] at this
  exact this
theorem ahd_mv (de : Nat → Int32) (mi : Int32) (i : Nat) (hi : i < 12) : FX4_ending_36_x4 13 0 0 mi de (nI i) = nI (zct (ahd de mi i) 12) := by
  have := ahd_m de mi i hi 13 0 0 rfl
  rw [if_neg (by decide), Nat.zero_add, Nat.zero_add] at this
  exact this
theorem ahd_ne (de : Nat → Int32) (mi : Int32) (i j : Nat) (hi : i < 12) (hj : j < 12) (h : i ≠ j) (ci : ¬ de i ≤ mi) (cj : ¬ de j ≤ mi) : zct (ahd de mi i) 12 ≠ zct (ahd de mi j) 12 := by
  have key : ∀ a b : Nat, a < 12 → b < 12 → ¬ de a ≤ mi → ahd de mi b a → zct (ahd de mi a) 12 < zct (ahd de mi b) 12 := by
    intro a b ha hb ca hab
    refine zct_lt (ahd de mi a) (ahd de mi b) (fun z (hz : ahd de mi a z) => ⟨hz.1, ?_⟩) a hab (fun (q : ahd de mi a a) => ?_) 12 ha
    · rcases hz.2 with z1 | ⟨z1, z2⟩ <;> rcases hab.2 with y1 | ⟨y1, y2⟩
      · refine Or.inl ?_
        rw [Int32.lt_iff_toInt_lt] at z1 y1 ⊢
        omega
      · rw [← y1]; exact Or.inl z1
      · rw [z1]; exact Or.inl y1
      · exact Or.inr ⟨z1.trans y1, by omega⟩
    · rcases q.2 with q | q
      · rw [Int32.lt_iff_toInt_lt] at q; omega
      · omega
  have tot : ahd de mi i j ∨ ahd de mi j i := by
    rcases Int.lt_trichotomy (de i).toInt (de j).toInt with q | q | q
    · exact Or.inr ⟨ci, Or.inl (Int32.lt_iff_toInt_lt.mpr q)⟩
    · have e := Int32.toInt_inj.mp q
      rcases Nat.lt_or_ge i j with z | z
      · exact Or.inr ⟨ci, Or.inr ⟨e, z⟩⟩
      · exact Or.inl ⟨cj, Or.inr ⟨e.symm, by omega⟩⟩
    · exact Or.inl ⟨cj, Or.inl (Int32.lt_iff_toInt_lt.mpr q)⟩
  rcases tot with q | q
  · have := key j i hj hi cj q; omega
  · have := key i j hi hj ci q; omega
theorem end_none (de : Nat → Int32) (mi p0 : Int32) : ∀ (n k : Nat) (x : Int32), n + k = 13 → 1 ≤ n → (∀ j, k ≤ j → j < 12 → ¬ de j ≤ mi → nI (zct (ahd de mi j) 12) ≠ p0) → FX4_ending_24_x2 n x (nI k) mi de p0 = x
  | 0, k, x, _, h, _ => by omega
  | n + 1, k, x, h, h1, hh => by
    unfold FX4_ending_24_x2
    by_cases e : k = 12
    · subst e; rw [if_pos zc_12e]
    · rw [if_neg (zc_12 (by omega)), nI_1]
      have ih := fun x => end_none de mi p0 n (k + 1) x (by omega) (by omega) (fun j a b c => hh j (by omega) b c)
      unfold f_X4_isIn_r
      rw [zc_nat (n := k) (by omega)]
      by_cases c1 : de k ≤ mi
      · rw [if_pos c1, if_pos rfl, ih]
      · rw [if_neg c1, if_neg (show ¬ (1 : Int32) = 0 by decide), ahd_mv de mi k (by omega), if_neg (hh k (Nat.le_refl _) (by omega) c1), ih]
theorem end_is (de : Nat → Int32) (mi p0 : Int32) : ∀ (n k : Nat), n + k = 13 → 1 ≤ n → FX4_ending_24_x2 n (-1) (nI k) mi de p0 = FX3_ending_16_r n (nI k) mi de p0
  | 0, k, _, h => by omega
  | n + 1, k, h, h1 => by
    unfold FX4_ending_24_x2 FX3_ending_16_r
    by_cases e : k = 12
    · subst e; rw [if_pos zc_12e, if_pos zc_12e]
    · rw [if_neg (zc_12 (by omega)), if_neg (zc_12 (by omega)), nI_1]
      have ih := end_is de mi p0 n (k + 1) (by omega) (by omega)
      unfold f_X4_isIn_r f_X0_isInSession_r
      rw [zc_nat (n := k) (by omega)]
      by_cases c1 : de k ≤ mi
      · rw [if_pos c1, if_pos rfl, if_pos rfl, ih]
      · rw [if_neg c1, if_neg (show ¬ (1 : Int32) = 0 by decide), if_neg (show ¬ (1 : Int32) = 0 by decide), ahd_mv de mi k (by omega), ahd_gv de mi k (by omega)]
        by_cases c2 : nI (zct (ahd de mi k) 12) = p0
        · rw [if_pos c2, if_pos c2]
          refine end_none de mi p0 n (k + 1) _ (by omega) (by omega) (fun j a b c d => ?_)
          have e1 := zct_bd (ahd de mi k) 12
          have e2 := zct_bd (ahd de mi j) 12
          rw [← c2] at d
          exact ahd_ne de mi j k b (by omega) (by omega) c c1 ((nI_eq (by omega) (by omega)).mp d)
        · rw [if_neg c2, if_neg c2, ih]
theorem ending_eq (de : Nat → Int32) (mi p0 : Int32) : FX4_ending_24_x2 13 (-1) 0 mi de p0 = FX3_ending_16_r 13 0 mi de p0 := end_is de mi p0 13 0 rfl (by decide)
/-! ### keepers' bits -/
theorem ones_64 : ∀ a : Nat, a < 64 → ∀ b : Nat, b < 64 → f_X4_ones_r (nI (64 * a + b)) = f_J6_bitCount_0f7a4_r (nI (64 * a + b)) := by decide +kernel
theorem ones_eq (j : Nat) (h : j < 4096) : f_X4_ones_r (nI j) = f_J6_bitCount_0f7a4_r (nI j) := by
  have := ones_64 (j / 64) (by omega) (j % 64) (by omega)
  rwa [show 64 * (j / 64) + j % 64 = j by omega] at this
