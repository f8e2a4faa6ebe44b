/-! ## the walks of the system and of the reference -/
theorem zc_12 {k : Nat} (hk : k < 12) : ¬ (12 : Int32) ≤ nI k := nI_ge (a := k) (b := 12) hk (by decide)
theorem zc_12e : (12 : Int32) ≤ nI 12 := by decide
theorem zc_nat {n : Nat} (h : n < 1073741824) : (nI n).toNatClampNeg = n := nI_clamp (by omega)
theorem vp_of_nI {x : Int32} {n : Nat} (h : vp_in x n) (hn : n < 1073741824) : x = nI x.toNatClampNeg := by
  obtain ⟨j, hj, rfl⟩ := vp_in_of h (by omega)
  rw [zc_nat (by omega)]
/-! ### who is a person, who is a guest -/
theorem ps_m1 : f_X3_isPerson_r (-1) = 0 := by decide
theorem ps_ne {x : Int32} (h : vp_in x 12) : ¬ f_X3_isPerson_r x = 0 := by
  obtain ⟨j, hj, rfl⟩ := vp_in_of h (by decide)
  unfold f_X3_isPerson_r
  rw [if_neg (nI_pos (by omega)), if_neg (zc_12 hj)]
  decide
theorem gs_no {x : Int32} (h : x < 4) : f_X3_isGuest_r x = 0 := by
  unfold f_X3_isGuest_r
  rw [if_pos h]
theorem gs_ne {x : Int32} (hx : vp_in x 12) (h : ¬ x < 4) : ¬ f_X3_isGuest_r x = 0 := by
  obtain ⟨j, hj, rfl⟩ := vp_in_of hx (by decide)
  unfold f_X3_isGuest_r
  rw [if_neg h, if_neg (zc_12 hj)]
  decide
/-- a person's tie as both sides keep it -/
def tieR (N : Nat) (bY ho ro we wi ba th tr tm tb td : Nat → Int32) : Prop := ∀ j, j < 12 → (bY j = -1 ∧ th j = -1 ∧ td j = 0) ∨ (4 ≤ j ∧ ∃ v, v < N ∧ bY j = nI v ∧ th j = ho v ∧ vp_in (ho v) 12 ∧ tr j = ro v ∧ tm j = we v ∧ tb j = wi v ∧ td j = ba v)
theorem nI_m1 {v : Nat} (h : v < 1073741824) : ¬ nI v = -1 := fun q => by
  have h1 := nI_toInt (n := v) (by omega)
  rw [q] at h1
  have h2 : ((-1 : Int32)).toInt = -1 := by decide
  omega
section TIES
variable {N : Nat} {bY ho ro we wi ba th tr tm tb td : Nat → Int32}
theorem tie_case (hR : tieR N bY ho ro we wi ba th tr tm tb td) (hN : N ≤ 100) {x : Int32} (hx : vp_in x 12) : (bY x.toNatClampNeg = -1 ∧ th x.toNatClampNeg = -1 ∧ td x.toNatClampNeg = 0) ∨ (¬ bY x.toNatClampNeg = -1 ∧ ¬ x < 4 ∧ th x.toNatClampNeg = ho (bY x.toNatClampNeg).toNatClampNeg ∧ vp_in (th x.toNatClampNeg) 12 ∧ tr x.toNatClampNeg = ro (bY x.toNatClampNeg).toNatClampNeg ∧ td x.toNatClampNeg = ba (bY x.toNatClampNeg).toNatClampNeg) := by
  rcases hR _ (vp_lt hx) with h | ⟨h4, v, hv, e1, e2, e3, e4, e5, e6, e7⟩
  · exact Or.inl h
  · refine Or.inr ?_
    rw [e1, zc_nat (by omega)]
    refine ⟨nI_m1 (by omega), fun q => ?_, e2, by rw [e2]; exact e3, e4, e7⟩
    have e := vp_of_nI hx (by decide)
    rw [e] at q
    have := (nI_ltI (a := x.toNatClampNeg) (b := 4) (by have := vp_lt hx; omega) (by decide)).mp q
    omega
theorem tie_th (hR : tieR N bY ho ro we wi ba th tr tm tb td) : ∀ j : Nat, j < 12 → inN (th j) := fun j hj => by
  rcases hR j hj with h | ⟨_, v, _, _, e2, e3, _⟩
  · exact Or.inl h.2.1
  · exact Or.inr (by rw [e2]; exact e3)
theorem tie_by (hR : tieR N bY ho ro we wi ba th tr tm tb td) (hN : N ≤ 100) : ∀ j : Nat, j < 12 → (bY j = -1 ∨ vp_in (bY j) 100) := fun j hj => by
  rcases hR j hj with h | ⟨_, v, hv, e1, _⟩
  · exact Or.inl h.1
  · exact Or.inr (by rw [e1]; exact vp_in_nI (by omega) (by decide))
/-! ### the taint -/
theorem st_low (td th : Nat → Int32) : ∀ (n : Nat) (x k : Int32), x < 4 → FX2_standsOnBadVouching_4_r n x k th td = 0
  | 0, _, _, _ => rfl
  | n + 1, x, k, h => by
    unfold FX2_standsOnBadVouching_4_r
    rw [if_pos (gs_no h)]
    split <;> rfl
theorem mt_one (bY ho ba : Nat → Int32) : ∀ (n k : Nat) (x : Int32), n + k = 13 → k ≤ 12 → FX4_isTainted_12_x2 n 1 x (nI k) bY ho ba = 1
  | 0, k, _, h, h2 => by omega
  | n + 1, k, x, h, h2 => by
    unfold FX4_isTainted_12_x2
    by_cases c : k = 12
    · subst c; rw [if_pos zc_12e]
    · rw [if_neg (zc_12 (by omega))]
      split
      · rfl
      · rw [if_neg (show ¬ (1 : Int32) = 0 by decide), nI_1]
        exact mt_one bY ho ba n (k + 1) _ (by omega) (by omega)
theorem mt_st (hR : tieR N bY ho ro we wi ba th tr tm tb td) (hN : N ≤ 100) : ∀ (n k : Nat) (x : Int32), n + k = 13 → k ≤ 12 → vp_in x 12 → FX4_isTainted_12_x2 n 0 x (nI k) bY ho ba = FX2_standsOnBadVouching_4_r n x (nI k) th td
  | 0, k, _, h, h2, _ => by omega
  | n + 1, k, x, h, h2, hx => by
    unfold FX4_isTainted_12_x2 FX2_standsOnBadVouching_4_r
    by_cases c : k = 12
    · subst c; rw [if_pos zc_12e, if_pos zc_12e]
    · have c12 := zc_12 (k := k) (by omega)
      rw [if_neg c12, if_neg c12, nI_1]
      rcases tie_case hR hN hx with ⟨e1, e2, e3⟩ | ⟨e1, e2, e3, e4, e5, e6⟩
      · rw [if_pos e1, e3, if_pos rfl, e2, st_low td th n (-1) _ (by decide)]
        split <;> rfl
      · rw [if_neg e1, if_pos rfl, if_neg (gs_ne hx e2), e6, ← e3]
        split
        · exact mt_st hR hN n (k + 1) _ (by omega) (by omega) e4
        · exact mt_one bY ho ba n (k + 1) _ (by omega) (by omega)
theorem taint_eq (hR : tieR N bY ho ro we wi ba th tr tm tb td) (hN : N ≤ 100) {lo : Nat → Int32} (hlo : ∀ j : Nat, j < 12 → lo j = 0 ∨ lo j = 1) {x : Int32} (hx : vp_in x 12) : f_X4_isTainted_r bY lo ho ba x = f_X2_isTainted_r th td lo x := by
  unfold f_X4_isTainted_r f_X2_isTainted_r f_X2_standsOnBadVouching_r
  rcases hlo _ (vp_lt hx) with e | e
  · rw [e, if_pos rfl]
    have h := mt_st hR hN 13 0 x rfl (by decide) hx
    rw [nI_0] at h
    rw [h]
    rcases mt_bool 13 0 x 0 bY ho ba (Or.inl rfl) with b | b
    · rw [h] at b; rw [b]; rfl
    · rw [h] at b; rw [b]; rfl
  · rw [e, if_neg (by decide)]
    have h := mt_one bY ho ba 13 0 x rfl (by decide)
    rw [nI_0] at h
    exact h
/-! ### the chain -/
theorem fz_holes : ∀ (m n : Nat) (f : Nat → Nat), (∀ i, i < n → f i < m) → (∀ i j, i < j → j < n → f i ≠ f j) → n ≤ m
  | 0, n, f, h1, _ => by
    rcases Nat.eq_zero_or_pos n with e | e
    · omega
    · exact absurd (h1 0 e) (Nat.not_lt_zero _)
  | m + 1, 0, f, _, _ => Nat.zero_le _
  | m + 1, n + 1, f, h1, h2 => by
    have := fz_holes m n (fun i => if f i = m then f n else f i) (fun i hi => by
      have a1 := h1 i (by omega)
      have a2 := h1 n (by omega)
      have a3 := h2 i n hi (by omega)
      by_cases c : f i = m
      · simp only [if_pos c]; omega
      · simp only [if_neg c]; omega) (fun i j hij hj => by
      have a1 := h2 i j hij (by omega)
      have a2 := h2 i n (by omega) (by omega)
      have a3 := h2 j n hj (by omega)
      by_cases c : f i = m
      · by_cases d : f j = m
        · exact absurd (c.trans d.symm) a1
        · simp only [if_pos c, if_neg d]; exact fun q => a3 q.symm
      · by_cases d : f j = m
        · simp only [if_neg c, if_pos d]; exact a2
        · simp only [if_neg c, if_neg d]; exact a1)
    omega
def dst (th : Nat → Int32) : Nat → Int32 → Prop
  | 0, x => vp_in x 4
  | d + 1, x => vp_in x 12 ∧ ¬ x < 4 ∧ dst th d (th x.toNatClampNeg)
theorem dst_lt {x : Int32} (h : vp_in x 4) : x < 4 := by
  obtain ⟨j, hj, rfl⟩ := vp_in_of h (by decide)
  exact (nI_ltI (a := j) (b := 4) (by omega) (by decide)).mpr hj
theorem dst_one (th : Nat → Int32) : ∀ (d e : Nat) (x : Int32), dst th d x → dst th e x → d = e
  | 0, 0, _, _, _ => rfl
  | 0, e + 1, _, h1, h2 => absurd (dst_lt h1) h2.2.1
  | d + 1, 0, _, h1, h2 => absurd (dst_lt h2) h1.2.1
  | d + 1, e + 1, _, h1, h2 => congrArg Nat.succ (dst_one th d e _ h1.2.2 h2.2.2)
def itr (th : Nat → Int32) : Nat → Int32 → Int32
  | 0, x => x
  | i + 1, x => itr th i (th x.toNatClampNeg)
theorem itr_dst (th : Nat → Int32) : ∀ (i d : Nat) (x : Int32), dst th (d + i) x → dst th d (itr th i x)
  | 0, _, _, h => h
  | i + 1, d, x, h => itr_dst th i d _ (h : dst th (d + i + 1) x).2.2
theorem dst_le (th : Nat → Int32) (d : Nat) (x : Int32) (h : dst th d x) : d ≤ 8 := by
  have hn : ∀ i, i < d → dst th (d - i - 1 + 1) (itr th i x) := fun i hi => by
    have : d - i - 1 + 1 + i = d := by omega
    exact itr_dst th i _ x (by rw [this]; exact h)
  refine fz_holes 8 d (fun i => (itr th i x).toNatClampNeg - 4) (fun i hi => ?_) (fun i j hij hj e => ?_)
  · have h1 := hn i hi
    have := vp_lt h1.1
    show (itr th i x).toNatClampNeg - 4 < 8
    omega
  · have h1 := hn i (by omega)
    have h2 := hn j hj
    have g : ∀ y : Int32, vp_in y 12 → ¬ y < 4 → 4 ≤ y.toNatClampNeg := fun y hy c => by
      rw [vp_of_nI hy (by decide)] at c
      have := vp_lt hy
      have := mt (nI_ltI (a := y.toNatClampNeg) (b := 4) (by omega) (by decide)).mpr c
      omega
    have g1 := g _ h1.1 h1.2.1
    have g2 := g _ h2.1 h2.2.1
    have e2 : itr th i x = itr th j x := by
      rw [vp_of_nI h1.1 (by decide), vp_of_nI h2.1 (by decide)]
      have e' : (itr th i x).toNatClampNeg - 4 = (itr th j x).toNatClampNeg - 4 := e
      congr 1
      omega
    rw [e2] at h1
    have := dst_one th _ _ _ h1 h2
    omega
theorem lt4_vp {x : Int32} (hx : vp_in x 12) (c : x < 4) : vp_in x 4 := by
  refine vp_in_of3 (M := 4) rfl (by decide) (fun q => hx (Or.inl q)) c
theorem steps_is (hth : ∀ j : Nat, j < 12 → inN (th j)) : ∀ (n k : Nat) (x : Int32), n + k = 13 → k ≤ 12 → inN x → (∀ d, dst th d x → k + d ≤ 11) → (∃ d, dst th d x ∧ FX2_stepsToStaff_4_r n x (nI k) th = nI (k + d)) ∨ ((∀ d, ¬ dst th d x) ∧ FX2_stepsToStaff_4_r n x (nI k) th = -1)
  | 0, k, _, h, h2, _, _ => by omega
  | n + 1, k, x, h, h2, hx, hd => by
    unfold FX2_stepsToStaff_4_r
    by_cases c : k = 12
    · subst c
      refine Or.inr ⟨fun d q => ?_, if_pos zc_12e⟩
      have := hd d q
      omega
    · rw [if_neg (zc_12 (by omega))]
      rcases hx with rfl | hx
      · refine Or.inr ⟨fun d q => ?_, if_pos ps_m1⟩
        cases d with
        | zero => exact absurd q (by unfold dst vp_in; decide)
        | succ d => exact absurd q.1 (by unfold vp_in; decide)
      · rw [if_neg (ps_ne hx)]
        by_cases c4 : 4 ≤ x
        · have c5 : ¬ x < 4 := fun q => by
            rw [Int32.lt_iff_toInt_lt] at q
            rw [Int32.le_iff_toInt_le] at c4
            omega
          rw [if_neg (gs_ne hx c5), nI_1]
          rcases steps_is hth n (k + 1) (th x.toNatClampNeg) (by omega) (by omega) (hth _ (vp_lt hx)) (fun d q => by
            have := hd (d + 1) ⟨hx, c5, q⟩
            omega) with ⟨d, h1, h3⟩ | ⟨h1, h3⟩
          · exact Or.inl ⟨d + 1, ⟨hx, c5, h1⟩, by rw [h3]; congr 1; omega⟩
          · refine Or.inr ⟨fun d q => ?_, h3⟩
            cases d with
            | zero => exact c5 (dst_lt q)
            | succ d => exact h1 d q.2.2
        · have c5 : x < 4 := Int32.not_le.mp c4
          rw [if_pos (gs_no c5)]
          exact Or.inl ⟨0, lt4_vp hx c5, rfl⟩
theorem chain_is (hR : tieR N bY ho ro we wi ba th tr tm tb td) (hN : N ≤ 100) : ∀ (n k : Nat) (x : Int32), n + k = 13 → k ≤ 12 → vp_in x 12 → (∀ d, dst th d x → k + d ≤ 11) → (∃ d, dst th d x ∧ FX4_chainOf_4_x3 n x (nI k) bY ho = nI (k + d) ∧ ¬ 4 ≤ FX4_chainOf_4_x2 n x (nI k) bY ho) ∨ ((∀ d, ¬ dst th d x) ∧ 4 ≤ FX4_chainOf_4_x2 n x (nI k) bY ho)
  | 0, k, _, h, h2, _, _ => by omega
  | n + 1, k, x, h, h2, hx, hd => by
    unfold FX4_chainOf_4_x2 FX4_chainOf_4_x3
    by_cases c4 : x < 4
    · rw [if_pos c4, if_pos c4]
      exact Or.inl ⟨0, lt4_vp hx c4, rfl, Int32.not_le.mpr c4⟩
    · have c5 := Int32.not_lt.mp c4
      rw [if_neg c4, if_neg c4]
      rcases tie_case hR hN hx with ⟨e1, e2, e3⟩ | ⟨e1, e2, e3, e4, e5, e6⟩
      · rw [if_pos e1, if_pos e1]
        refine Or.inr ⟨fun d q => ?_, c5⟩
        cases d with
        | zero => exact c4 (dst_lt q)
        | succ d =>
          have q2 := q.2.2
          rw [e2] at q2
          cases d with
          | zero => exact absurd q2 (by unfold dst vp_in; decide)
          | succ d => exact absurd q2.1 (by unfold vp_in; decide)
      · rw [if_neg e1, if_neg e1]
        by_cases c : k = 12
        · subst c
          rw [if_pos zc_12e, if_pos zc_12e]
          refine Or.inr ⟨fun d q => ?_, c5⟩
          have := hd d q
          omega
        · rw [if_neg (zc_12 (by omega)), if_neg (zc_12 (by omega)), nI_1, ← e3]
          rcases chain_is hR hN n (k + 1) (th x.toNatClampNeg) (by omega) (by omega) e4 (fun d q => by
            have := hd (d + 1) ⟨hx, c4, q⟩
            omega) with ⟨d, h1, h3, h4⟩ | ⟨h1, h3⟩
          · exact Or.inl ⟨d + 1, ⟨hx, c4, h1⟩, by rw [h3]; congr 1; omega, h4⟩
          · refine Or.inr ⟨fun d q => ?_, h3⟩
            cases d with
            | zero => exact c4 (dst_lt q)
            | succ d => exact h1 d q.2.2
theorem chain_eq (hR : tieR N bY ho ro we wi ba th tr tm tb td) (hN : N ≤ 100) {x : Int32} (hx : vp_in x 12) : f_X4_chainOf_r bY ho x = f_X2_stepsToStaff_r th x := by
  unfold f_X4_chainOf_r f_X2_stepsToStaff_r
  have hd : ∀ d, dst th d x → 0 + d ≤ 11 := fun d q => by have := dst_le th d x q; omega
  rcases chain_is hR hN 13 0 x rfl (by decide) hx hd with ⟨d, h1, h3, h4⟩ | ⟨h1, h3⟩
  · rw [nI_0] at h3 h4
    rw [if_neg h4, h3]
    rcases steps_is (tie_th hR) 13 0 x rfl (by decide) (Or.inr hx) hd with ⟨e, g1, g3⟩ | ⟨g1, g3⟩
    · rw [nI_0] at g3
      rw [g3, dst_one th _ _ _ h1 g1]
    · exact absurd h1 (g1 d)
  · rw [nI_0] at h3
    rw [if_pos h3]
    rcases steps_is (tie_th hR) 13 0 x rfl (by decide) (Or.inr hx) hd with ⟨e, g1, g3⟩ | ⟨g1, g3⟩
    · exact absurd g1 (h1 e)
    · rw [nI_0] at g3
      exact g3.symm
theorem trust_eq (hR : tieR N bY ho ro we wi ba th tr tm tb td) (hN : N ≤ 100) {x : Int32} (hx : vp_in x 12) : f_X4_isTrusted_r bY ho x = f_X2_isTrusted_r th x := by
  unfold f_X4_isTrusted_r f_X2_isTrusted_r
  rw [chain_eq hR hN hx]
theorem trust_dst (hR : tieR N bY ho ro we wi ba th tr tm tb td) {x : Int32} (hx : vp_in x 12) (h : ¬ f_X2_isTrusted_r th x = 0) : ∃ d, d ≤ 8 ∧ dst th d x := by
  have hd : ∀ d, dst th d x → 0 + d ≤ 11 := fun d q => by have := dst_le th d x q; omega
  rcases steps_is (tie_th hR) 13 0 x rfl (by decide) (Or.inr hx) hd with ⟨e, g1, g3⟩ | ⟨g1, g3⟩
  · exact ⟨e, dst_le th e x g1, g1⟩
  · rw [nI_0] at g3
    exact absurd (by unfold f_X2_isTrusted_r f_X2_stepsToStaff_r; rw [if_pos g3]) h
/-! ### the rooms -/
theorem rooms_0 (th tr : Nat → Int32) : ∀ (n : Nat) (x k : Int32), FX2_roomsOf_18_x2 n 0 x k th tr = 0
  | 0, _, _ => rfl
  | n + 1, x, k => by
    unfold FX2_roomsOf_18_x2
    split
    · rfl
    · split
      · rfl
      · rw [Int32.zero_and]
        exact rooms_0 th tr n _ _
theorem rooms_is (hR : tieR N bY ho ro we wi ba th tr tm tb td) (hN : N ≤ 100) : ∀ (d n k q : Nat) (x y : Int32), n + k = 13 → k + d ≤ 11 → d + 1 ≤ q → dst th d x → FX4_roomsOf_17_x2 q (y &&& 63) x bY ho ro = FX2_roomsOf_18_x2 n (y &&& 63) x (nI k) th tr
  | 0, 0, k, q, x, y, h, h2, h3, hd => by omega
  | d + 1, 0, k, q, x, y, h, h2, h3, hd => by omega
  | 0, n + 1, k, 0, x, y, h, h2, h3, hd => by omega
  | d + 1, n + 1, k, 0, x, y, h, h2, h3, hd => by omega
  | 0, n + 1, k, q + 1, x, y, h, h2, h3, hd => by
    unfold FX4_roomsOf_17_x2 FX2_roomsOf_18_x2
    rw [if_neg (zc_12 (by omega)), if_pos (dst_lt hd), if_pos (gs_no (dst_lt hd))]
    split <;> rfl
  | d + 1, n + 1, k, q + 1, x, y, h, h2, h3, hd => by
    unfold FX4_roomsOf_17_x2 FX2_roomsOf_18_x2
    rw [if_neg (zc_12 (by omega)), if_neg hd.2.1, if_neg (gs_ne hd.1 hd.2.1), nI_1]
    by_cases c : (y &&& 63) ≤ 0
    · rw [if_pos c]
      obtain ⟨j, hj, e⟩ := pk_andE y (m := 63) 6 (by decide)
      rw [e] at c ⊢
      have : j = 0 := by
        rcases Nat.eq_zero_or_pos j with z | z
        · exact z
        · exact absurd c (nI_nle z (by omega))
      subst this
      rw [nI_0, Int32.zero_and, rooms_0]
    · rw [if_neg c]
      rcases tie_case hR hN hd.1 with ⟨e1, e2, e3⟩ | ⟨e1, e2, e3, e4, e5, e6⟩
      · have q2 := hd.2.2
        rw [e2] at q2
        exfalso
        cases d with
        | zero => exact absurd q2 (by unfold dst vp_in; decide)
        | succ d => exact absurd q2.1 (by unfold vp_in; decide)
      · rw [← e3, ← e5, Int32.and_assoc, Int32.and_comm 63, ← Int32.and_assoc]
        exact rooms_is hR hN d n (k + 1) q _ _ (by omega) (by omega) (by omega) hd.2.2
theorem rooms_eq (hR : tieR N bY ho ro we wi ba th tr tm tb td) (hN : N ≤ 100) {x : Int32} (hx : vp_in x 12) : f_X4_roomsOf_r bY ho ro x = f_X2_roomsOf_r th tr x := by
  unfold f_X4_roomsOf_r f_X2_roomsOf_r
  rw [trust_eq hR hN hx]
  by_cases c : f_X2_isTrusted_r th x = 0
  · rw [if_pos c, if_pos c]
    unfold FX4_roomsOf_17_x2
    rw [if_pos (by decide)]
  · rw [if_neg c, if_neg c]
    obtain ⟨d, hd, h⟩ := trust_dst hR hx c
    have := rooms_is hR hN d 13 0 13 x (-1) rfl (by omega) (by omega) h
    rw [nI_0, show ((-1 : Int32) &&& 63) = 63 by decide] at this
    exact this
/-! ### who may act, and how many -/
theorem isIn_eq (mi : Int32) (en : Nat → Int32) (x : Int32) : f_X4_isIn_r mi en x = f_X0_isInSession_r en x mi := rfl
theorem can_eq (hR : tieR N bY ho ro we wi ba th tr tm tb td) (hN : N ≤ 100) {lo : Nat → Int32} (hlo : ∀ j : Nat, j < 12 → lo j = 0 ∨ lo j = 1) (mi : Int32) (en : Nat → Int32) {x : Int32} (hx : vp_in x 12) : f_X4_canVouch_r mi en bY lo ho ba x = f_X3_mayAct_r mi en th td lo x := by
  unfold f_X4_canVouch_r f_X3_mayAct_r
  rw [isIn_eq, taint_eq hR hN hlo hx, trust_eq hR hN hx]
  split
  · rfl
  · split
    · rfl
    · split <;> rfl
theorem users_is (hR : tieR N bY ho ro we wi ba th tr tm tb td) (hN : N ≤ 100) {lo : Nat → Int32} (hlo : ∀ j : Nat, j < 12 → lo j = 0 ∨ lo j = 1) (mi : Int32) (en kp : Nat → Int32) (p0 : Int32) : ∀ (n k : Nat) (c : Int32), n + k = 13 → FX4_users_4_x2 n c (nI k) mi en bY lo ho ba kp p0 = FX3_countUsers_4_x2 n c (nI k) kp mi en th td lo p0
  | 0, _, _, _ => rfl
  | n + 1, k, c, h => by
    unfold FX4_users_4_x2 FX3_countUsers_4_x2
    by_cases h12 : (12 : Int32) ≤ nI k
    · rw [if_pos h12, if_pos h12]
    · have hv : vp_in (nI k) 12 := vp_in_of2 (M := 12) rfl (by decide) (nI_pos (by omega)) h12
      rw [if_neg h12, if_neg h12, nI_1, Int32.add_zero]
      unfold f_X3_holds_r
      by_cases hb : (kp p0.toNatClampNeg >>> (nI k &&& 31)) &&& 1 = 1
      · rw [if_pos hb, if_pos hb, if_neg (show ¬ (1 : Int32) = 0 by decide), can_eq hR hN hlo mi en hv]
        split
        · exact users_is hR hN hlo mi en kp p0 n (k + 1) c (by omega)
        · exact users_is hR hN hlo mi en kp p0 n (k + 1) (c + 1) (by omega)
      · rw [if_neg hb, if_neg hb, if_pos rfl]
        exact users_is hR hN hlo mi en kp p0 n (k + 1) c (by omega)
theorem users_eq (hR : tieR N bY ho ro we wi ba th tr tm tb td) (hN : N ≤ 100) {lo : Nat → Int32} (hlo : ∀ j : Nat, j < 12 → lo j = 0 ∨ lo j = 1) (mi : Int32) (en kp : Nat → Int32) (p0 : Int32) : f_X4_users_r mi en bY lo ho ba kp p0 = f_X3_countUsers_r kp mi en th td lo p0 := by
  have := users_is hR hN hlo mi en kp p0 13 0 0 rfl
  rw [nI_0] at this
  exact this
end TIES
