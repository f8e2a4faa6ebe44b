theorem zc_12 {k : Nat} (hk : k < 12) : ¬ (12 : Int32) ≤ nI k := nI_ge (a := k) (b := 12) hk (by decide)
theorem zc_12e : (12 : Int32) ≤ nI 12 := by decide
theorem zc_nat {n : Nat} (h : n < 1073741824) : (nI n).toNatClampNeg = n := nI_clamp (by omega)
theorem vp_of_nI {x : Int32} {n : Nat} (h : vp_in x n) (hn : n < 1073741824) : x = nI x.toNatClampNeg := by
  obtain ⟨j, hj, rfl⟩ := vp_in_of h (by omega)
  rw [zc_nat (by omega)]
theorem ps_m1 : f_X3_isPerson_r (-1) = 0 := by decide
theorem ps_ne {x : Int32} (h : vp_in x 12) : ¬ f_X3_isPerson_r x = 0 := by
  obtain ⟨j, hj, rfl⟩ := vp_in_of h (by decide)
  unfold f_X3_isPerson_r
  rw [if_neg (nI_pos (by omega)), if_neg (zc_12 hj)]
  decide
theorem gs_no {x : Int32} (h : x < 4) : f_X3_isGuest_r x = 0 := by
  unfold f_X3_isGuest_r
  rw [if_pos h]
theorem gs_ne {x : Int32} (hx : vp_in x 12) (h : ¬ x < 4) : ¬ f_X3_isGuest_r x = 0 := by
  obtain ⟨j, hj, rfl⟩ := vp_in_of hx (by decide)
  unfold f_X3_isGuest_r
  rw [if_neg h, if_neg (zc_12 hj)]
  decide
theorem nI_m1 {v : Nat} (h : v < 1073741824) : ¬ nI v = -1 := fun q => by
  have h1 := nI_toInt (n := v) (by omega)
  rw [q] at h1
  have h2 : ((-1 : Int32)).toInt = -1 := by decide
  omega
theorem st_low (td th : Nat → Int32) : ∀ (n : Nat) (x k : Int32), x < 4 → FX2_standsOnBadVouching_4_r n x k th td = 0
  | 0, _, _, _ => rfl
  | n + 1, x, k, h => by
    unfold FX2_standsOnBadVouching_4_r
    rw [if_pos (gs_no h)]
    split <;> rfl
theorem fz_holes : ∀ (m n : Nat) (f : Nat → Nat), (∀ i, i < n → f i < m) → (∀ i j, i < j → j < n → f i ≠ f j) → n ≤ m
  | 0, n, f, h1, _ => by
    rcases Nat.eq_zero_or_pos n with e | e
    · omega
    · exact absurd (h1 0 e) (Nat.not_lt_zero _)
  | m + 1, 0, f, _, _ => Nat.zero_le _
  | m + 1, n + 1, f, h1, h2 => by
    have := fz_holes m n (fun i => if f i = m then f n else f i) (fun i hi => by
      have a1 := h1 i (by omega)
      have a2 := h1 n (by omega)
      have a3 := h2 i n hi (by omega)
      by_cases c : f i = m
      · simp only [if_pos c]; omega
      · simp only [if_neg c]; omega) (fun i j hij hj => by
      have a1 := h2 i j hij (by omega)
      have a2 := h2 i n (by omega) (by omega)
      have a3 := h2 j n hj (by omega)
      by_cases c : f i = m
      · by_cases d : f j = m
        · exact absurd (c.trans d.symm) a1
        · simp only [if_pos c, if_neg d]; exact fun q => a3 q.symm
      · by_cases d : f j = m
        · simp only [if_neg c, if_pos d]; exact a2
        · simp only [if_neg c, if_neg d]; exact a1)
    omega
def dst (th : Nat → Int32) : Nat → Int32 → Prop
  | 0, x => vp_in x 4
  | d + 1, x => vp_in x 12 ∧ ¬ x < 4 ∧ dst th d (th x.toNatClampNeg)
theorem dst_lt {x : Int32} (h : vp_in x 4) : x < 4 := by
  obtain ⟨j, hj, rfl⟩ := vp_in_of h (by decide)
  exact (nI_ltI (a := j) (b := 4) (by omega) (by decide)).mpr hj
theorem dst_one (th : Nat → Int32) : ∀ (d e : Nat) (x : Int32), dst th d x → dst th e x → d = e
  | 0, 0, _, _, _ => rfl
  | 0, e + 1, _, h1, h2 => absurd (dst_lt h1) h2.2.1
  | d + 1, 0, _, h1, h2 => absurd (dst_lt h2) h1.2.1
  | d + 1, e + 1, _, h1, h2 => congrArg Nat.succ (dst_one th d e _ h1.2.2 h2.2.2)
def itr (th : Nat → Int32) : Nat → Int32 → Int32
  | 0, x => x
  | i + 1, x => itr th i (th x.toNatClampNeg)
theorem itr_dst (th : Nat → Int32) : ∀ (i d : Nat) (x : Int32), dst th (d + i) x → dst th d (itr th i x)
  | 0, _, _, h => h
  | i + 1, d, x, h => itr_dst th i d _ (h : dst th (d + i + 1) x).2.2
theorem dst_le (th : Nat → Int32) (d : Nat) (x : Int32) (h : dst th d x) : d ≤ 8 := by
  have hn : ∀ i, i < d → dst th (d - i - 1 + 1) (itr th i x) := fun i hi => by
    have : d - i - 1 + 1 + i = d := by omega
    exact itr_dst th i _ x (by rw [this]; exact h)
  refine fz_holes 8 d (fun i => (itr th i x).toNatClampNeg - 4) (fun i hi => ?_) (fun i j hij hj e => ?_)
  · have h1 := hn i hi
    have := vp_lt h1.1
    show (itr th i x).toNatClampNeg - 4 < 8
    omega
  · have h1 := hn i (by omega)
    have h2 := hn j hj
    have g : ∀ y : Int32, vp_in y 12 → ¬ y < 4 → 4 ≤ y.toNatClampNeg := fun y hy c => by
      rw [vp_of_nI hy (by decide)] at c
      have := vp_lt hy
      have := mt (nI_ltI (a := y.toNatClampNeg) (b := 4) (by omega) (by decide)).mpr c
      omega
    have g1 := g _ h1.1 h1.2.1
    have g2 := g _ h2.1 h2.2.1
    have e2 : itr th i x = itr th j x := by
      rw [vp_of_nI h1.1 (by decide), vp_of_nI h2.1 (by decide)]
      have e' : (itr th i x).toNatClampNeg - 4 = (itr th j x).toNatClampNeg - 4 := e
      congr 1
      omega
    rw [e2] at h1
    have := dst_one th _ _ _ h1 h2
    omega
theorem lt4_vp {x : Int32} (hx : vp_in x 12) (c : x < 4) : vp_in x 4 := by
  refine vp_in_of3 (M := 4) rfl (by decide) (fun q => hx (Or.inl q)) c
theorem steps_is {th : Nat → Int32} (hth : ∀ j : Nat, j < 12 → inN (th j)) : ∀ (n k : Nat) (x : Int32), n + k = 13 → k ≤ 12 → inN x → (∀ d, dst th d x → k + d ≤ 11) → (∃ d, dst th d x ∧ FX2_stepsToStaff_4_r n x (nI k) th = nI (k + d)) ∨ ((∀ d, ¬ dst th d x) ∧ FX2_stepsToStaff_4_r n x (nI k) th = -1)
  | 0, k, _, h, h2, _, _ => by omega
  | n + 1, k, x, h, h2, hx, hd => by
    unfold FX2_stepsToStaff_4_r
    by_cases c : k = 12
    · subst c
      refine Or.inr ⟨fun d q => ?_, if_pos zc_12e⟩
      have := hd d q
      omega
    · rw [if_neg (zc_12 (by omega))]
      rcases hx with rfl | hx
      · refine Or.inr ⟨fun d q => ?_, if_pos ps_m1⟩
        cases d with
        | zero => exact absurd q (by unfold dst vp_in; decide)
        | succ d => exact absurd q.1 (by unfold vp_in; decide)
      · rw [if_neg (ps_ne hx)]
        by_cases c4 : 4 ≤ x
        · have c5 : ¬ x < 4 := fun q => by
            rw [Int32.lt_iff_toInt_lt] at q
            rw [Int32.le_iff_toInt_le] at c4
            omega
          rw [if_neg (gs_ne hx c5), nI_1]
          rcases steps_is hth n (k + 1) (th x.toNatClampNeg) (by omega) (by omega) (hth _ (vp_lt hx)) (fun d q => by
            have := hd (d + 1) ⟨hx, c5, q⟩
            omega) with ⟨d, h1, h3⟩ | ⟨h1, h3⟩
          · exact Or.inl ⟨d + 1, ⟨hx, c5, h1⟩, by rw [h3]; congr 1; omega⟩
          · refine Or.inr ⟨fun d q => ?_, h3⟩
            cases d with
            | zero => exact c5 (dst_lt q)
            | succ d => exact h1 d q.2.2
        · have c5 : x < 4 := Int32.not_le.mp c4
          rw [if_pos (gs_no c5)]
          exact Or.inl ⟨0, lt4_vp hx c5, rfl⟩
def zct (P : Nat → Prop) [DecidablePred P] : Nat → Nat
  | 0 => 0
  | n + 1 => zct P n + (if P n then 1 else 0)
theorem zct_le (P Q : Nat → Prop) [DecidablePred P] [DecidablePred Q] (h : ∀ j, P j → Q j) : ∀ n, zct P n ≤ zct Q n
  | 0 => Nat.le_refl _
  | n + 1 => by
    have h1 := zct_le P Q h n
    unfold zct
    by_cases c : P n
    · rw [if_pos c, if_pos (h n c)]; omega
    · rw [if_neg c]; omega
theorem zct_lt (P Q : Nat → Prop) [DecidablePred P] [DecidablePred Q] (h : ∀ j, P j → Q j) (i : Nat) (hQ : Q i) (hP : ¬ P i) : ∀ n, i < n → zct P n < zct Q n
  | 0, h0 => absurd h0 (Nat.not_lt_zero _)
  | n + 1, h0 => by
    unfold zct
    by_cases c : i = n
    · subst c
      rw [if_neg hP, if_pos hQ]
      have := zct_le P Q h i
      omega
    · have h1 := zct_lt P Q h i hQ hP n (by omega)
      by_cases c : P n
      · rw [if_pos c, if_pos (h n c)]; omega
      · rw [if_neg c]; omega
theorem zct_bd (P : Nat → Prop) [DecidablePred P] : ∀ n, zct P n ≤ n
  | 0 => Nat.le_refl _
  | n + 1 => by
    have := zct_bd P n
    unfold zct
    split <;> omega
abbrev ahd (de : Nat → Int32) (mi : Int32) (i j : Nat) : Prop := ¬ de j ≤ mi ∧ (de j < de i ∨ (de j = de i ∧ j < i))
theorem ahd_g (de : Nat → Int32) (mi : Int32) (i : Nat) (hi : i < 12) : ∀ (n k : Nat) (c : Nat), n + k = 13 → FX0_countEndingAheadOf_5_x3 n (nI (c + zct (ahd de mi i) k)) (nI k) de (nI i) mi = if n = 0 then 0 else nI (c + zct (ahd de mi i) 12)
  | 0, k, c, h => rfl
  | n + 1, k, c, h => by
    unfold FX0_countEndingAheadOf_5_x3
    rw [if_neg (show ¬ n + 1 = 0 by omega)]
    by_cases e : k = 12
    · subst e; rw [if_pos zc_12e]
    · have hn : ¬ n = 0 := by omega
      rw [if_neg (zc_12 (by omega)), nI_1]
      have ih := ahd_g de mi i hi n (k + 1) c (by omega)
      rw [if_neg hn] at ih
      have hs : zct (ahd de mi i) (k + 1) = zct (ahd de mi i) k + (if ahd de mi i k then 1 else 0) := rfl
      unfold f_X0_isInSession_r f_X0_endsAheadOf_r
      rw [zc_nat (n := k) (by omega), zc_nat (n := i) (by omega)]
      by_cases c1 : de k ≤ mi
      · rw [if_pos c1, if_pos rfl]
        rw [hs, if_neg (fun q : ahd de mi i k => q.1 c1)] at ih
        exact ih
      · rw [if_neg c1, if_neg (show ¬ (1 : Int32) = 0 by decide)]
        by_cases c2 : de k = de i
        · rw [if_pos c2]
          by_cases c3 : nI i ≤ nI k
          · rw [if_pos c3, if_pos rfl]
            have c4 := (nI_leI (a := i) (b := k) (by omega) (by omega)).mp c3
            rw [hs, if_neg (fun q : ahd de mi i k => by
              rcases q.2 with q | q
              · rw [c2, Int32.lt_iff_toInt_lt] at q; omega
              · omega)] at ih
            exact ih
          · rw [if_neg c3, if_neg (show ¬ (1 : Int32) = 0 by decide), nI_1]
            have c4 : k < i := by
              have := mt (nI_leI (a := i) (b := k) (by omega) (by omega)).mpr c3
              omega
            rw [hs, if_pos (show ahd de mi i k from ⟨c1, Or.inr ⟨c2, c4⟩⟩)] at ih
            exact ih
        · rw [if_neg c2]
          by_cases c3 : de i ≤ de k
          · rw [if_pos c3, if_pos rfl]
            rw [hs, if_neg (fun q : ahd de mi i k => by
              rcases q.2 with q | q
              · rw [Int32.lt_iff_toInt_lt] at q; rw [Int32.le_iff_toInt_le] at c3; omega
              · exact c2 q.1)] at ih
            exact ih
          · rw [if_neg c3, if_neg (show ¬ (1 : Int32) = 0 by decide), nI_1]
            rw [hs, if_pos (show ahd de mi i k from ⟨c1, Or.inl (Int32.not_le.mp c3)⟩)] at ih
            exact ih
theorem ahd_gv (de : Nat → Int32) (mi : Int32) (i : Nat) (hi : i < 12) : f_X0_countEndingAheadOf_r de (nI i) mi = nI (zct (ahd de mi i) 12) := by
  have := ahd_g de mi i hi 13 0 0 rfl
  rw [if_neg (by decide), Nat.zero_add, Nat.zero_add] at this
  exact this
theorem ahd_ne (de : Nat → Int32) (mi : Int32) (i j : Nat) (hi : i < 12) (hj : j < 12) (h : i ≠ j) (ci : ¬ de i ≤ mi) (cj : ¬ de j ≤ mi) : zct (ahd de mi i) 12 ≠ zct (ahd de mi j) 12 := by
  have key : ∀ a b : Nat, a < 12 → b < 12 → ¬ de a ≤ mi → ahd de mi b a → zct (ahd de mi a) 12 < zct (ahd de mi b) 12 := by
    intro a b ha hb ca hab
    refine zct_lt (ahd de mi a) (ahd de mi b) (fun z (hz : ahd de mi a z) => ⟨hz.1, ?_⟩) a hab (fun (q : ahd de mi a a) => ?_) 12 ha
    · rcases hz.2 with z1 | ⟨z1, z2⟩ <;> rcases hab.2 with y1 | ⟨y1, y2⟩
      · refine Or.inl ?_
        rw [Int32.lt_iff_toInt_lt] at z1 y1 ⊢
        omega
      · rw [← y1]; exact Or.inl z1
      · rw [z1]; exact Or.inl y1
      · exact Or.inr ⟨z1.trans y1, by omega⟩
    · rcases q.2 with q | q
      · rw [Int32.lt_iff_toInt_lt] at q; omega
      · omega
  have tot : ahd de mi i j ∨ ahd de mi j i := by
    rcases Int.lt_trichotomy (de i).toInt (de j).toInt with q | q | q
    · exact Or.inr ⟨ci, Or.inl (Int32.lt_iff_toInt_lt.mpr q)⟩
    · have e := Int32.toInt_inj.mp q
      rcases Nat.lt_or_ge i j with z | z
      · exact Or.inr ⟨ci, Or.inr ⟨e, z⟩⟩
      · exact Or.inl ⟨cj, Or.inr ⟨e.symm, by omega⟩⟩
    · exact Or.inl ⟨cj, Or.inl (Int32.lt_iff_toInt_lt.mpr q)⟩
  rcases tot with q | q
  · have := key j i hj hi cj q; omega
  · have := key i j hi hj ci q; omega
theorem upd_at (f : Nat → Int32) (i : Nat) (v : Int32) : upd f i v i = v := if_pos rfl
theorem upd_ne (f : Nat → Int32) {i j : Nat} (v : Int32) (h : ¬ j = i) : upd f i v j = f j := if_neg h
abbrev mkC (th tm tb tg : Nat → Int32) (p q : Int32) (j : Nat) : Prop := th j = p ∧ tb j = tg p.toNatClampNeg ∧ ¬ tm j < q
theorem mark_is (th tm tb tg : Nat → Int32) (p q : Int32) (j : Nat) : ∀ (n k : Nat) (v : Nat → Int32), n + k = 13 → k ≤ 12 → FX2_markLost_9_vtd n (nI k) v th tm tb tg p q j = if (k ≤ j ∧ j < 12) ∧ mkC th tm tb tg p q j then 1 else v j
  | 0, k, v, h, h2 => by omega
  | n + 1, k, v, h, h2 => by
    unfold FX2_markLost_9_vtd
    by_cases e : k = 12
    · subst e
      rw [if_pos zc_12e, if_neg (fun z : (12 ≤ j ∧ j < 12) ∧ mkC th tm tb tg p q j => by omega)]
    · rw [if_neg (zc_12 (by omega)), nI_1, zc_nat (n := k) (by omega)]
      have ih := fun v => mark_is th tm tb tg p q j n (k + 1) v (by omega) (by omega)
      have skip : ∀ v : Nat → Int32, ¬ mkC th tm tb tg p q k → (if (k + 1 ≤ j ∧ j < 12) ∧ mkC th tm tb tg p q j then (1 : Int32) else v j) = if (k ≤ j ∧ j < 12) ∧ mkC th tm tb tg p q j then 1 else v j := fun v c => by
        by_cases d : (k ≤ j ∧ j < 12) ∧ mkC th tm tb tg p q j
        · rw [if_pos d]
          refine if_pos ⟨⟨?_, d.1.2⟩, d.2⟩
          rcases Nat.lt_or_ge k j with z | z
          · exact z
          · exact absurd ((show k = j by omega) ▸ d.2) c
        · rw [if_neg d]
          exact if_neg (fun z => d ⟨⟨by omega, z.1.2⟩, z.2⟩)
      by_cases c1 : th k = p
      · rw [if_pos c1]
        by_cases c2 : tb k = tg p.toNatClampNeg
        · rw [if_pos c2]
          by_cases c3 : tm k < q
          · rw [if_pos c3, ih, skip v (fun z => z.2.2 c3)]
          · rw [if_neg c3, ih]
            have ck : mkC th tm tb tg p q k := ⟨c1, c2, c3⟩
            by_cases d : (k ≤ j ∧ j < 12) ∧ mkC th tm tb tg p q j
            · rw [if_pos d]
              rcases Nat.lt_or_ge k j with z | z
              · exact if_pos ⟨⟨z, d.1.2⟩, d.2⟩
              · have : j = k := by omega
                subst this
                rw [upd_at]
                split <;> rfl
            · rw [if_neg d, if_neg (fun z => d ⟨⟨by omega, z.1.2⟩, z.2⟩)]
              refine upd_ne _ _ (fun z => d ?_)
              subst z
              exact ⟨⟨Nat.le_refl _, by omega⟩, ck⟩
        · rw [if_neg c2, ih, skip v (fun z => c2 z.2.1)]
      · rw [if_neg c1, ih, skip v (fun z => c1 z.1)]
theorem mark_at (th tm tb td tg : Nat → Int32) (p q : Int32) (j : Nat) : f_X2_markLost_td th tm tb td tg p q j = if (4 ≤ j ∧ j < 12) ∧ mkC th tm tb tg p q j then 1 else td j := mark_is th tm tb tg p q j 9 4 td rfl (by decide)
abbrev T7 : Type := (Nat → Int32) × (Nat → Int32) × (Nat → Int32) × (Nat → Int32) × (Nat → Int32) × (Nat → Int32) × Int32
def stepT (lk lp lg lm : Nat → Int32) (k : Nat) (S : T7) : T7 := (f_X1_replayOne_th lk lp lg S.1 (nI k), f_X1_replayOne_tm lk lg lm S.2.1 (nI k), f_X1_replayOne_tb lk lp lg S.2.2.1 S.2.2.2.2.1 (nI k), f_X1_replayOne_td lk lp lg lm S.1 S.2.1 S.2.2.1 S.2.2.2.1 S.2.2.2.2.1 (nI k), f_X1_replayOne_tg lk lp S.2.2.2.2.1 S.2.2.2.2.2.2 (nI k), f_X1_replayOne_tl lk lp S.2.2.2.2.2.1 (nI k), f_X1_replayOne_tn lk S.2.2.2.2.2.2 (nI k))
def rpF (lk lp lg lm : Nat → Int32) : Nat → Nat → T7 → T7
  | 0, _, S => S
  | n + 1, k, S => rpF lk lp lg lm n (k + 1) (stepT lk lp lg lm k S)
theorem rpF_snoc (lk lp lg lm : Nat → Int32) : ∀ (n k : Nat) (S : T7), rpF lk lp lg lm (n + 1) k S = stepT lk lp lg lm (k + n) (rpF lk lp lg lm n k S)
  | 0, k, S => rfl
  | n + 1, k, S => by
    have := rpF_snoc lk lp lg lm n (k + 1) (stepT lk lp lg lm k S)
    rw [show k + 1 + n = k + (n + 1) by omega] at this
    exact this
theorem rp_th (lk lp lg lm : Nat → Int32) (L : Nat) (hL : L ≤ 512) : ∀ (n k : Nat) (S : T7), k + n = L → FX1_replayInto_6_vth (n + 1) (nI k) S.1 S.2.1 S.2.2.1 S.2.2.2.1 S.2.2.2.2.1 S.2.2.2.2.2.1 S.2.2.2.2.2.2 lk lp lg lm (nI L) = (rpF lk lp lg lm n k S).1
  | 0, k, S, h => by
    unfold FX1_replayInto_6_vth
    rw [if_pos (nI_le (a := L) (b := k) (by omega) (by omega))]
    rfl
  | n + 1, k, S, h => by
    unfold FX1_replayInto_6_vth
    rw [if_neg (nI_ge (a := k) (b := L) (by omega) (by omega)), nI_1]
    exact rp_th lk lp lg lm L hL n (k + 1) (stepT lk lp lg lm k S) (by omega)
theorem rp_td (lk lp lg lm : Nat → Int32) (L : Nat) (hL : L ≤ 512) : ∀ (n k : Nat) (S : T7), k + n = L → FX1_replayInto_6_vtd (n + 1) (nI k) S.1 S.2.1 S.2.2.1 S.2.2.2.1 S.2.2.2.2.1 S.2.2.2.2.2.1 S.2.2.2.2.2.2 lk lp lg lm (nI L) = (rpF lk lp lg lm n k S).2.2.2.1
  | 0, k, S, h => by
    unfold FX1_replayInto_6_vtd
    rw [if_pos (nI_le (a := L) (b := k) (by omega) (by omega))]
    rfl
  | n + 1, k, S, h => by
    unfold FX1_replayInto_6_vtd
    rw [if_neg (nI_ge (a := k) (b := L) (by omega) (by omega)), nI_1]
    exact rp_td lk lp lg lm L hL n (k + 1) (stepT lk lp lg lm k S) (by omega)
theorem rp_tl (lk lp lg lm : Nat → Int32) (L : Nat) (hL : L ≤ 512) : ∀ (n k : Nat) (S : T7), k + n = L → FX1_replayInto_6_vtl (n + 1) (nI k) S.1 S.2.1 S.2.2.1 S.2.2.2.1 S.2.2.2.2.1 S.2.2.2.2.2.1 S.2.2.2.2.2.2 lk lp lg lm (nI L) = (rpF lk lp lg lm n k S).2.2.2.2.2.1
  | 0, k, S, h => by
    unfold FX1_replayInto_6_vtl
    rw [if_pos (nI_le (a := L) (b := k) (by omega) (by omega))]
    rfl
  | n + 1, k, S, h => by
    unfold FX1_replayInto_6_vtl
    rw [if_neg (nI_ge (a := k) (b := L) (by omega) (by omega)), nI_1]
    exact rp_tl lk lp lg lm L hL n (k + 1) (stepT lk lp lg lm k S) (by omega)
def eqvT (S T : T7) : Prop := (∀ j : Nat, j < 12 → S.1 j = T.1 j ∧ (¬ S.1 j = -1 → S.2.1 j = T.2.1 j ∧ S.2.2.1 j = T.2.2.1 j) ∧ S.2.2.2.1 j = T.2.2.2.1 j ∧ S.2.2.2.2.1 j = T.2.2.2.2.1 j ∧ S.2.2.2.2.2.1 j = T.2.2.2.2.2.1 j) ∧ S.2.2.2.2.2.2 = T.2.2.2.2.2.2
def freshT (S : T7) : Prop := (∀ j : Nat, j < 12 → S.1 j = -1 ∧ S.2.2.2.1 j = 0 ∧ S.2.2.2.2.1 j = nI j ∧ S.2.2.2.2.2.1 j = 0) ∧ S.2.2.2.2.2.2 = 12
theorem stepT_eqv {lk lp lg lm : Nat → Int32} {k : Nat} (hk : k < 512) (he : evOK lk lp lg k) {S T : T7} (h : eqvT S T) : eqvT (stepT lk lp lg lm k S) (stepT lk lp lg lm k T) := by
  obtain ⟨sh, sm, sb, sd, sg, sl, sn⟩ := S
  obtain ⟨th, tm, tb, td, tg, tl, tn⟩ := T
  obtain ⟨h, hn⟩ := h
  have hn : sn = tn := hn
  subst hn
  unfold stepT f_X1_replayOne_th f_X1_replayOne_tm f_X1_replayOne_tb f_X1_replayOne_td f_X1_replayOne_tg f_X1_replayOne_tl f_X1_replayOne_tn
  rw [zc_nat (n := k) (by omega)]
  by_cases c0 : lk k = 0
  · obtain ⟨hp, hg⟩ := he.1 c0
    simp only [if_pos c0]
    refine ⟨fun j hj => ?_, rfl⟩
    obtain ⟨a1, a2, a3, a4, a5⟩ := h j hj
    have b4 : sg (lp k).toNatClampNeg = tg (lp k).toNatClampNeg := (h _ (vp_lt hp)).2.2.2.1
    show f_X2_tie_th sh (lp k) (lg k) j = f_X2_tie_th th (lp k) (lg k) j ∧ (¬ f_X2_tie_th sh (lp k) (lg k) j = -1 → f_X2_tie_tm sm (lg k) (lm k) j = f_X2_tie_tm tm (lg k) (lm k) j ∧ f_X2_tie_tb sb sg (lp k) (lg k) j = f_X2_tie_tb tb tg (lp k) (lg k) j) ∧ f_X2_tie_td sd (lg k) j = f_X2_tie_td td (lg k) j ∧ sg j = tg j ∧ sl j = tl j
    unfold f_X2_tie_th f_X2_tie_tm f_X2_tie_tb f_X2_tie_td
    by_cases c : j = (lg k).toNatClampNeg
    · subst c
      exact ⟨by rw [upd_at, upd_at], fun _ => ⟨by rw [upd_at, upd_at], by rw [upd_at, upd_at]; exact b4⟩, by rw [upd_at, upd_at], a4, a5⟩
    · simp only [upd_ne _ _ c]
      exact ⟨a1, a2, a3, a4, a5⟩
  · simp only [if_neg c0]
    by_cases c1 : lk k = 1
    · simp only [if_pos c1]
      refine ⟨fun j hj => ?_, rfl⟩
      obtain ⟨a1, a2, a3, a4, a5⟩ := h j hj
      show f_X2_untie_th sh (lg k) j = f_X2_untie_th th (lg k) j ∧ (¬ f_X2_untie_th sh (lg k) j = -1 → sm j = tm j ∧ sb j = tb j) ∧ f_X2_untie_td sd (lg k) j = f_X2_untie_td td (lg k) j ∧ sg j = tg j ∧ sl j = tl j
      unfold f_X2_untie_th f_X2_untie_td
      by_cases c : j = (lg k).toNatClampNeg
      · subst c
        exact ⟨by rw [upd_at, upd_at], fun z => absurd (upd_at _ _ _) z, by rw [upd_at, upd_at], a4, a5⟩
      · simp only [upd_ne _ _ c]
        exact ⟨a1, a2, a3, a4, a5⟩
    · simp only [if_neg c1]
      have hp := he.2.2 c0 c1
      have b4 : sg (lp k).toNatClampNeg = tg (lp k).toNatClampNeg := (h _ (vp_lt hp)).2.2.2.1
      by_cases c2 : lk k = 2
      · simp only [if_pos c2]
        refine ⟨fun j hj => ?_, rfl⟩
        obtain ⟨a1, a2, a3, a4, a5⟩ := h j hj
        have a1 : sh j = th j := a1
        have a2 : ¬ sh j = -1 → sm j = tm j ∧ sb j = tb j := a2
        have a3 : sd j = td j := a3
        show sh j = th j ∧ (¬ sh j = -1 → sm j = tm j ∧ sb j = tb j) ∧ f_X2_markLost_td sh sm sb sd sg (lp k) (lm k) j = f_X2_markLost_td th tm tb td tg (lp k) (lm k) j ∧ sg j = tg j ∧ f_X2_markLost_tl sl (lp k) j = f_X2_markLost_tl tl (lp k) j
        refine ⟨a1, a2, ?_, a4, ?_⟩
        · rw [mark_at, mark_at, a3]
          have cd : ((4 ≤ j ∧ j < 12) ∧ mkC sh sm sb sg (lp k) (lm k) j) ↔ ((4 ≤ j ∧ j < 12) ∧ mkC th tm tb tg (lp k) (lm k) j) := by
            unfold mkC
            rw [← a1, ← b4]
            by_cases z : sh j = lp k
            · have zn : ¬ sh j = -1 := fun y => by
                rw [z] at y
                rw [y] at hp
                exact absurd hp (by unfold vp_in; decide)
              rw [(a2 zn).1, (a2 zn).2]
            · exact ⟨fun y => absurd y.2.1 z, fun y => absurd y.2.1 z⟩
          by_cases z : (4 ≤ j ∧ j < 12) ∧ mkC sh sm sb sg (lp k) (lm k) j
          · rw [if_pos z, if_pos (cd.mp z)]
          · rw [if_neg z, if_neg (fun y => z (cd.mpr y))]
        · unfold f_X2_markLost_tl
          by_cases c : j = (lp k).toNatClampNeg
          · subst c
            rw [upd_at, upd_at]
          · rw [upd_ne _ _ c, upd_ne _ _ c]
            exact a5
      · simp only [if_neg c2]
        refine ⟨fun j hj => ?_, rfl⟩
        obtain ⟨a1, a2, a3, a4, a5⟩ := h j hj
        show sh j = th j ∧ (¬ sh j = -1 → sm j = tm j ∧ sb j = tb j) ∧ sd j = td j ∧ f_X2_renewBadge_tg sg sn (lp k) j = f_X2_renewBadge_tg tg sn (lp k) j ∧ f_X2_renewBadge_tl sl (lp k) j = f_X2_renewBadge_tl tl (lp k) j
        unfold f_X2_renewBadge_tg f_X2_renewBadge_tl
        refine ⟨a1, a2, a3, ?_⟩
        by_cases c : j = (lp k).toNatClampNeg
        · subst c
          exact ⟨by rw [upd_at, upd_at], by rw [upd_at, upd_at]⟩
        · simp only [upd_ne _ _ c]
          exact ⟨a4, a5⟩
theorem stepT_cong {lk lp lg lm lk' lp' lg' lm' : Nat → Int32} {k : Nat} (hk : k < 512) (h1 : lk k = lk' k) (h2 : lp k = lp' k) (h3 : lg k = lg' k) (h4 : lm k = lm' k) (S : T7) : stepT lk lp lg lm k S = stepT lk' lp' lg' lm' k S := by
  unfold stepT f_X1_replayOne_th f_X1_replayOne_tm f_X1_replayOne_tb f_X1_replayOne_td f_X1_replayOne_tg f_X1_replayOne_tl f_X1_replayOne_tn
  rw [zc_nat (n := k) (by omega), h1, h2, h3, h4]
theorem rpF_cong {lk lp lg lm lk' lp' lg' lm' : Nat → Int32} : ∀ (n k : Nat) (S : T7), k + n ≤ 512 → (∀ j : Nat, j < k + n → lk j = lk' j ∧ lp j = lp' j ∧ lg j = lg' j ∧ lm j = lm' j) → rpF lk lp lg lm n k S = rpF lk' lp' lg' lm' n k S
  | 0, _, _, _, _ => rfl
  | n + 1, k, S, h, hh => by
    unfold rpF
    obtain ⟨h1, h2, h3, h4⟩ := hh k (by omega)
    rw [stepT_cong (lk' := lk') (lp' := lp') (lg' := lg') (lm' := lm') (by omega) h1 h2 h3 h4]
    exact rpF_cong n (k + 1) _ (by omega) (fun j hj => hh j (by omega))
theorem rp_more {lk lp lg lm : Nat → Int32} {L : Nat} (hL : L < 512) (ho : ∀ j : Nat, j < L → evOK lk lp lg j) {T : T7} (h : ∀ S : T7, freshT S → eqvT (rpF lk lp lg lm L 0 S) T) (vk vp vg vm : Int32) (he : evOK (upd lk L vk) (upd lp L vp) (upd lg L vg) L) :
    (∀ j : Nat, j < L + 1 → evOK (upd lk L vk) (upd lp L vp) (upd lg L vg) j) ∧ ∀ S : T7, freshT S → eqvT (rpF (upd lk L vk) (upd lp L vp) (upd lg L vg) (upd lm L vm) (L + 1) 0 S) (stepT (upd lk L vk) (upd lp L vp) (upd lg L vg) (upd lm L vm) L T) := by
  refine ⟨fun j hj => ?_, fun S hS => ?_⟩
  · by_cases c : j = L
    · rw [c]; exact he
    · have := ho j (by omega)
      unfold evOK at this ⊢
      rw [upd_ne _ _ c, upd_ne _ _ c, upd_ne _ _ c]
      exact this
  · rw [rpF_snoc, Nat.zero_add, ← rpF_cong (lk := lk) (lp := lp) (lg := lg) (lm := lm) L 0 S (by omega) (fun j hj => by
      have c : ¬ j = L := by omega
      rw [upd_ne _ _ c, upd_ne _ _ c, upd_ne _ _ c, upd_ne _ _ c]
      exact ⟨rfl, rfl, rfl, rfl⟩)]
    exact stepT_eqv hL he (h S hS)
theorem st_cong {th td th' td' : Nat → Int32} (h : ∀ j : Nat, j < 12 → th j = th' j ∧ td j = td' j) (hth : ∀ j : Nat, j < 12 → inN (th j)) : ∀ (n : Nat) (x k : Int32), inN x → FX2_standsOnBadVouching_4_r n x k th td = FX2_standsOnBadVouching_4_r n x k th' td'
  | 0, _, _, _ => rfl
  | n + 1, x, k, hx => by
    unfold FX2_standsOnBadVouching_4_r
    by_cases c : 12 ≤ k
    · rw [if_pos c, if_pos c]
    · rw [if_neg c, if_neg c]
      by_cases d : f_X3_isGuest_r x = 0
      · rw [if_pos d, if_pos d]
      · have hv := vp_lt (gst_in d)
        rw [if_neg d, if_neg d, (h _ hv).2, (h _ hv).1, ← (h _ hv).1, st_cong h hth n (th x.toNatClampNeg) _ (hth _ hv)]
theorem reset_h (j : Nat) : ∀ (n k : Nat) (a b c d : Nat → Int32), n + k = 13 → k ≤ 12 → FX2_reset_2_vth n (nI k) a b c d j = (if k ≤ j ∧ j < 12 then -1 else a j) ∧ FX2_reset_2_vtd n (nI k) a b c d j = (if k ≤ j ∧ j < 12 then 0 else b j) ∧ FX2_reset_2_vtg n (nI k) a b c d j = (if k ≤ j ∧ j < 12 then nI j else c j) ∧ FX2_reset_2_vtl n (nI k) a b c d j = (if k ≤ j ∧ j < 12 then 0 else d j)
  | 0, k, _, _, _, _, h, h2 => by omega
  | n + 1, k, a, b, c, d, h, h2 => by
    unfold FX2_reset_2_vth FX2_reset_2_vtd FX2_reset_2_vtg FX2_reset_2_vtl
    by_cases e : k = 12
    · subst e
      have z : ¬ (12 ≤ j ∧ j < 12) := by omega
      rw [if_pos zc_12e, if_pos zc_12e, if_pos zc_12e, if_pos zc_12e, if_neg z, if_neg z, if_neg z, if_neg z]
      exact ⟨rfl, rfl, rfl, rfl⟩
    · have q := zc_12 (k := k) (by omega)
      rw [if_neg q, if_neg q, if_neg q, if_neg q, nI_1, zc_nat (n := k) (by omega)]
      obtain ⟨h3, h4, h5, h6⟩ := reset_h j n (k + 1) (upd a k (-1)) (upd b k 0) (upd c k (nI k)) (upd d k 0) (by omega) (by omega)
      rw [h3, h4, h5, h6]
      by_cases f : j = k
      · subst f
        have y : ¬ (j + 1 ≤ j ∧ j < 12) := by omega
        have z : j ≤ j ∧ j < 12 := by omega
        rw [if_neg y, if_neg y, if_neg y, if_neg y, if_pos z, if_pos z, if_pos z, if_pos z, upd_at, upd_at, upd_at, upd_at]
        exact ⟨rfl, rfl, rfl, rfl⟩
      · rw [upd_ne _ _ f, upd_ne _ _ f, upd_ne _ _ f, upd_ne _ _ f]
        by_cases y : k ≤ j ∧ j < 12
        · have z : k + 1 ≤ j ∧ j < 12 := by omega
          rw [if_pos y, if_pos y, if_pos y, if_pos y, if_pos z, if_pos z, if_pos z, if_pos z]
          exact ⟨rfl, rfl, rfl, rfl⟩
        · have z : ¬ (k + 1 ≤ j ∧ j < 12) := by omega
          rw [if_neg y, if_neg y, if_neg y, if_neg y, if_neg z, if_neg z, if_neg z, if_neg z]
          exact ⟨rfl, rfl, rfl, rfl⟩
theorem reset_fresh (uh ud ug ul um ub : Nat → Int32) : freshT (f_X2_reset_th uh ud ug ul, um, ub, f_X2_reset_td uh ud ug ul, f_X2_reset_tg uh ud ug ul, f_X2_reset_tl uh ud ug ul, f_X2_reset_tn) := by
  refine ⟨fun j hj => ?_, rfl⟩
  obtain ⟨h3, h4, h5, h6⟩ := reset_h j 13 0 uh ud ug ul rfl (by decide)
  have z : 0 ≤ j ∧ j < 12 := ⟨Nat.zero_le _, hj⟩
  rw [if_pos z] at h3 h4 h5 h6
  exact ⟨h3, h4, h5, h6⟩
theorem replay_eq {L n : Nat} (hL : L ≤ n) (hn : n < 513) {lk lp lg lm th tm tb td tg tl : Nat → Int32} {tn : Int32} (h : ∀ S : T7, freshT S → eqvT (rpF lk lp lg lm L 0 S) (th, tm, tb, td, tg, tl, tn)) (uh um ub ud ug ul : Nat → Int32) (j : Nat) (hj : j < 12) : f_X1_replayInto_th lk lp lg lm (nI L) uh um ub ud ug ul j = th j ∧ f_X1_replayInto_td lk lp lg lm (nI L) uh um ub ud ug ul j = td j ∧ f_X1_replayInto_tl lk lp lg lm (nI L) uh um ub ud ug ul j = tl j := by
  have h1 := h _ (reset_fresh uh ud ug ul um ub)
  have e1 := rp_th lk lp lg lm L (by omega) L 0 (f_X2_reset_th uh ud ug ul, um, ub, f_X2_reset_td uh ud ug ul, f_X2_reset_tg uh ud ug ul, f_X2_reset_tl uh ud ug ul, f_X2_reset_tn) (Nat.zero_add _)
  have e2 := rp_td lk lp lg lm L (by omega) L 0 (f_X2_reset_th uh ud ug ul, um, ub, f_X2_reset_td uh ud ug ul, f_X2_reset_tg uh ud ug ul, f_X2_reset_tl uh ud ug ul, f_X2_reset_tn) (Nat.zero_add _)
  have e3 := rp_tl lk lp lg lm L (by omega) L 0 (f_X2_reset_th uh ud ug ul, um, ub, f_X2_reset_td uh ud ug ul, f_X2_reset_tg uh ud ug ul, f_X2_reset_tl uh ud ug ul, f_X2_reset_tn) (Nat.zero_add _)
  rw [nI_0] at e1 e2 e3
  unfold f_X1_replayInto_th f_X1_replayInto_td f_X1_replayInto_tl
  rw [zc_nat (n := L) (by omega)]
  obtain ⟨a1, a2, a3, a4, a5⟩ := h1.1 j hj
  exact ⟨(congrFun e1 j).trans a1, (congrFun e2 j).trans a3, (congrFun e3 j).trans a5⟩
theorem anew_eq {L n : Nat} (hL : L ≤ n) (hn : n < 513) {lk lp lg lm th tm tb td tg tl : Nat → Int32} {tn : Int32} (h : ∀ S : T7, freshT S → eqvT (rpF lk lp lg lm L 0 S) (th, tm, tb, td, tg, tl, tn)) (hth : ∀ j : Nat, j < 12 → inN (th j)) (uh um ub ud ug ul : Nat → Int32) {x : Int32} (hx : vp_in x 12) : f_X2_isTainted_r (f_X1_replayInto_th lk lp lg lm (nI L) uh um ub ud ug ul) (f_X1_replayInto_td lk lp lg lm (nI L) uh um ub ud ug ul) (f_X1_replayInto_tl lk lp lg lm (nI L) uh um ub ud ug ul) x = f_X2_isTainted_r th td tl x := by
  have hq := replay_eq hL hn h uh um ub ud ug ul
  unfold f_X2_isTainted_r f_X2_standsOnBadVouching_r
  rw [(hq _ (vp_lt hx)).2.2, st_cong (fun j hj => ⟨(hq j hj).1.symm, (hq j hj).2.1.symm⟩) hth 13 x 0 (Or.inr hx)]
