/-! ### chains and rooms -/
def tieP (th : Nat → Int32) : Prop := ∀ j, j < 12 → th j = -1 ∨ (4 ≤ j ∧ vp_in (th j) 12 ∧ ¬ (th j).toNatClampNeg = j)
theorem tieP_th {th : Nat → Int32} (h : tieP th) : ∀ j : Nat, j < 12 → inN (th j) := fun j hj => by
  rcases h j hj with h | h
  · exact Or.inl h
  · exact Or.inr h.2.1
theorem m1_nd {th : Nat → Int32} (d : Nat) : ¬ dst th d (-1) := fun q => by
  cases d with
  | zero => exact absurd q (by unfold dst vp_in; decide)
  | succ d => exact absurd q.1 (by unfold vp_in; decide)
theorem stp {th : Nat → Int32} (hth : ∀ j : Nat, j < 12 → inN (th j)) {x : Int32} (hx : vp_in x 12) : (∃ d, d ≤ 8 ∧ dst th d x ∧ f_X2_stepsToStaff_r th x = nI d ∧ f_X2_isTrusted_r th x = 1) ∨ ((∀ d, ¬ dst th d x) ∧ f_X2_stepsToStaff_r th x = -1 ∧ f_X2_isTrusted_r th x = 0) := by
  have hd : ∀ d, dst th d x → 0 + d ≤ 11 := fun d q => by have := dst_le th d x q; omega
  rcases steps_is hth 13 0 x rfl (by decide) (Or.inr hx) hd with ⟨d, g1, g3⟩ | ⟨g1, g3⟩
  · have h8 := dst_le th d x g1
    rw [nI_0, Nat.zero_add] at g3
    have g3 : f_X2_stepsToStaff_r th x = nI d := g3
    refine Or.inl ⟨d, h8, g1, g3, ?_⟩
    unfold f_X2_isTrusted_r
    rw [g3, if_neg (nI_m1 (by omega))]
  · rw [nI_0] at g3
    have g3 : f_X2_stepsToStaff_r th x = -1 := g3
    refine Or.inr ⟨g1, g3, ?_⟩
    unfold f_X2_isTrusted_r
    rw [g3, if_pos rfl]
theorem neg1 : ¬ (0 : Int32) ≤ -1 := by decide
section AP
variable {th tr td tl : Nat → Int32} {x : Int32}
/-- trusted is: the chain is not negative -/
theorem ap4 (hth : ∀ j : Nat, j < 12 → inN (th j)) (hx : vp_in x 12) : f_X2_isTrusted_r th x = (if f_X2_stepsToStaff_r th x < 0 then 0 else 1) := by
  rcases stp hth hx with ⟨d, h8, _, e, e2⟩ | ⟨_, e, e2⟩
  · rw [e, e2, if_neg (nI_pos (by omega))]
  · rw [e, e2, if_pos (by decide)]
theorem ap5 (hth : ∀ j : Nat, j < 12 → inN (th j)) (hx : vp_in x 12) : ¬ 9 ≤ f_X2_stepsToStaff_r th x := by
  rcases stp hth hx with ⟨d, h8, _, e, _⟩ | ⟨_, e, _⟩
  · rw [e]; exact nI_ge (a := d) (b := 9) (by omega) (by decide)
  · rw [e]; decide
theorem ap_s0 (hth : ∀ j : Nat, j < 12 → inN (th j)) (hx : vp_in x 12) (c : ¬ 4 ≤ x) : f_X2_stepsToStaff_r th x = 0 := by
  have c4 := Int32.not_le.mp c
  rcases stp hth hx with ⟨d, h8, h, e, _⟩ | ⟨h, _⟩
  · cases d with
    | zero => rw [e, nI_0]
    | succ d => exact absurd c4 h.2.1
  · exact absurd (lt4_vp hx c4) (h 0)
theorem ap_h1 (ht : tieP th) (hx : vp_in x 12) (c : ¬ 4 ≤ x) : th x.toNatClampNeg = -1 := by
  rcases ht _ (vp_lt hx) with h | ⟨h4, _⟩
  · exact h
  · rw [vp_of_nI hx (by decide)] at c
    exact absurd (nI_le (a := 4) (b := x.toNatClampNeg) h4 (by have := vp_lt hx; omega)) c
theorem ap_hn (ht : tieP th) (hx : vp_in x 12) (c : th x.toNatClampNeg < 0) : th x.toNatClampNeg = -1 := by
  rcases ht _ (vp_lt hx) with h | ⟨_, h, _⟩
  · exact h
  · exact absurd c (fun q => h (Or.inl q))
theorem ap_hp (ht : tieP th) (hx : vp_in x 12) (c : 0 ≤ th x.toNatClampNeg) : vp_in (th x.toNatClampNeg) 12 := by
  rcases ht _ (vp_lt hx) with h | ⟨_, h, _⟩
  · rw [h] at c; exact absurd c neg1
  · exact h
theorem nlt4 (c : 4 ≤ x) : ¬ x < 4 := fun q => by
  rw [Int32.lt_iff_toInt_lt] at q
  rw [Int32.le_iff_toInt_le] at c
  omega
theorem ap_c1 (hth : ∀ j : Nat, j < 12 → inN (th j)) (hx : vp_in x 12) (c : 4 ≤ x) (h1 : th x.toNatClampNeg = -1) : f_X2_stepsToStaff_r th x = -1 := by
  rcases stp hth hx with ⟨d, h8, h, e, _⟩ | ⟨_, e, _⟩
  · cases d with
    | zero => exact absurd (dst_lt h) (nlt4 c)
    | succ d =>
      have := h.2.2
      rw [h1] at this
      exact absurd this (m1_nd d)
  · exact e
theorem ap_hk (ht : tieP th) (hx : vp_in x 12) (c : 0 ≤ th x.toNatClampNeg) : ¬ th x.toNatClampNeg = x := fun e => by
  rcases ht _ (vp_lt hx) with h | ⟨_, _, h⟩
  · rw [h] at c; exact absurd c neg1
  · exact h (congrArg Int32.toNatClampNeg e)
theorem ap_12 {y : Int32} (h : vp_in y 12) : ¬ 12 ≤ y := by
  obtain ⟨j, hj, rfl⟩ := vp_in_of h (by decide)
  exact zc_12 hj
/-- a chain is one longer than the host's -/
theorem ap_cc (hth : ∀ j : Nat, j < 12 → inN (th j)) (hx : vp_in x 12) (c : 4 ≤ x) (hh : vp_in (th x.toNatClampNeg) 12) : f_X2_stepsToStaff_r th x = (if 0 ≤ f_X2_stepsToStaff_r th (th x.toNatClampNeg) then f_X2_stepsToStaff_r th (th x.toNatClampNeg) + 1 else -1) := by
  rcases stp hth hx with ⟨d, h8, h, e, _⟩ | ⟨h, e, _⟩
  · cases d with
    | zero => exact absurd (dst_lt h) (nlt4 c)
    | succ d =>
      rcases stp hth hh with ⟨d', h8', h', e', _⟩ | ⟨h', _⟩
      · have := dst_one th d d' _ h.2.2 h'
        subst this
        rw [e, e', if_pos (nI_pos' (by omega)), nI_1]
      · exact absurd h.2.2 (h' d)
  · rcases stp hth hh with ⟨d', h8', h', e', _⟩ | ⟨h', e', _⟩
    · exact absurd (show dst th (d' + 1) x from ⟨hx, nlt4 c, h'⟩) (h (d' + 1))
    · rw [e, e', if_neg neg1]
/-- what the hosts' rooms leave -/
def rmA (th tr : Nat → Int32) : Nat → Int32 → Int32
  | 0, _ => -1
  | d + 1, x => tr x.toNatClampNeg &&& rmA th tr d (th x.toNatClampNeg)
theorem rooms_at (th tr : Nat → Int32) : ∀ (d n k : Nat) (x y : Int32), n + k = 13 → k + d ≤ 11 → dst th d x → FX2_roomsOf_18_x2 n y x (nI k) th tr = y &&& rmA th tr d x
  | d, 0, k, x, y, h, h2, hd => by omega
  | 0, n + 1, k, x, y, h, h2, hd => by
    unfold FX2_roomsOf_18_x2 rmA
    rw [if_neg (zc_12 (by omega)), if_pos (gs_no (dst_lt hd)), Int32.and_neg_one]
  | d + 1, n + 1, k, x, y, h, h2, hd => by
    unfold FX2_roomsOf_18_x2 rmA
    rw [if_neg (zc_12 (by omega)), if_neg (gs_ne hd.1 hd.2.1), nI_1, rooms_at th tr d n (k + 1) _ _ (by omega) (by omega) hd.2.2, Int32.and_assoc]
theorem rooms_of {d : Nat} (h8 : d ≤ 8) (h : dst th d x) (e2 : f_X2_isTrusted_r th x = 1) : f_X2_roomsOf_r th tr x = 63 &&& rmA th tr d x := by
  unfold f_X2_roomsOf_r
  rw [if_neg (by rw [e2]; decide), ← nI_0, rooms_at th tr d 13 0 x 63 rfl (by omega) h]
theorem rooms_no (e2 : f_X2_isTrusted_r th x = 0) : f_X2_roomsOf_r th tr x = 0 := by
  unfold f_X2_roomsOf_r
  rw [if_pos e2]
theorem rooms_rg (hth : ∀ j : Nat, j < 12 → inN (th j)) (hx : vp_in x 12) : ∃ r, r < 64 ∧ f_X2_roomsOf_r th tr x = nI r := by
  rcases stp hth hx with ⟨d, h8, h, e, e2⟩ | ⟨h, e, e2⟩
  · rw [rooms_of h8 h e2, Int32.and_comm]
    obtain ⟨j, hj, q⟩ := pk_andE (rmA th tr d x) (m := 63) 6 (by decide)
    exact ⟨j, hj, q⟩
  · rw [rooms_no e2]
    exact ⟨0, by decide, nI_0.symm⟩
theorem rooms_ge (hth : ∀ j : Nat, j < 12 → inN (th j)) (hx : vp_in x 12) : ¬ f_X2_roomsOf_r th tr x < 0 := by
  obtain ⟨r, hr, e⟩ := rooms_rg (tr := tr) hth hx
  rw [e]; exact nI_pos (by omega)
theorem rooms_lt (hth : ∀ j : Nat, j < 12 → inN (th j)) (hx : vp_in x 12) : ¬ 64 ≤ f_X2_roomsOf_r th tr x := by
  obtain ⟨r, hr, e⟩ := rooms_rg (tr := tr) hth hx
  rw [e]; exact nI_ge (a := r) (b := 64) hr (by decide)
theorem rooms_z (hth : ∀ j : Nat, j < 12 → inN (th j)) (hx : vp_in x 12) (c : ¬ 0 ≤ f_X2_stepsToStaff_r th x) : f_X2_roomsOf_r th tr x = 0 := by
  rcases stp hth hx with ⟨d, h8, h, e, e2⟩ | ⟨h, e, e2⟩
  · rw [e] at c; exact absurd (nI_pos' (by omega)) c
  · exact rooms_no e2
theorem rooms_63 (hth : ∀ j : Nat, j < 12 → inN (th j)) (hx : vp_in x 12) (c : ¬ 4 ≤ x) : f_X2_roomsOf_r th tr x = 63 := by
  have c4 := Int32.not_le.mp c
  rcases stp hth hx with ⟨d, h8, h, e, e2⟩ | ⟨h, _⟩
  · cases d with
    | zero =>
      rw [rooms_of h8 h e2]
      show (63 &&& (-1 : Int32)) = 63
      decide
    | succ d => exact absurd c4 h.2.1
  · exact absurd (lt4_vp hx c4) (h 0)
theorem and_x (y : Int32) : y &&& (y ^^^ (-1)) = 0 := by
  apply Int32.toBitVec_inj.mp
  apply BitVec.eq_of_getLsbD_eq
  intro i hi
  simp
theorem rooms_s (hth : ∀ j : Nat, j < 12 → inN (th j)) (hx : vp_in x 12) (c : 4 ≤ x) (hh : vp_in (th x.toNatClampNeg) 12) : (f_X2_roomsOf_r th tr x &&& (f_X2_roomsOf_r th tr (th x.toNatClampNeg) ^^^ (-1))) = 0 := by
  rcases stp hth hx with ⟨d, h8, h, e, e2⟩ | ⟨h, e, e2⟩
  · cases d with
    | zero => exact absurd (dst_lt h) (nlt4 c)
    | succ d =>
      rcases stp hth hh with ⟨d', h8', h', e', e2'⟩ | ⟨h', _⟩
      · have := dst_one th d d' _ h.2.2 h'
        subst this
        rw [rooms_of h8 h e2, rooms_of h8' h' e2']
        have : (63 &&& rmA th tr (d + 1) x) = tr x.toNatClampNeg &&& (63 &&& rmA th tr d (th x.toNatClampNeg)) := by
          show (63 &&& (tr x.toNatClampNeg &&& rmA th tr d (th x.toNatClampNeg))) = _
          rw [← Int32.and_assoc, Int32.and_comm 63, Int32.and_assoc]
        rw [this, Int32.and_assoc, and_x, Int32.and_zero]
      · exact absurd h.2.2 (h' d)
  · rw [rooms_no e2, Int32.zero_and]
/-- a guest whose rooms were set just now -/
theorem rooms_g (hth : ∀ j : Nat, j < 12 → inN (th j)) (hx : vp_in x 12) (c : 4 ≤ x) (hh : vp_in (th x.toNatClampNeg) 12) (e1 : f_X2_isTrusted_r th x = 1) : f_X2_roomsOf_r th tr x = (tr x.toNatClampNeg &&& f_X2_roomsOf_r th tr (th x.toNatClampNeg)) := by
  rcases stp hth hx with ⟨d, h8, h, e, e2⟩ | ⟨h, e, e2⟩
  · cases d with
    | zero => exact absurd (dst_lt h) (nlt4 c)
    | succ d =>
      rcases stp hth hh with ⟨d', h8', h', e', e2'⟩ | ⟨h', _⟩
      · have := dst_one th d d' _ h.2.2 h'
        subst this
        rw [rooms_of h8 h e2, rooms_of h8' h' e2']
        show (63 &&& (tr x.toNatClampNeg &&& rmA th tr d (th x.toNatClampNeg))) = _
        rw [← Int32.and_assoc, Int32.and_comm 63, Int32.and_assoc]
      · exact absurd h.2.2 (h' d)
  · rw [e2] at e1; exact absurd e1 (by decide)
theorem trust_no (hth : ∀ j : Nat, j < 12 → inN (th j)) (hx : vp_in x 12) (c : 4 ≤ x) (hh : vp_in (th x.toNatClampNeg) 12) (e1 : ¬ f_X2_isTrusted_r th x = 1) : f_X2_stepsToStaff_r th (th x.toNatClampNeg) = -1 := by
  rcases stp hth hh with ⟨d', h8', h', e', e2'⟩ | ⟨h', e', _⟩
  · rcases stp hth hx with ⟨d, h8, h, e, e2⟩ | ⟨h, e, e2⟩
    · exact absurd e2 e1
    · exact absurd (show dst th (d' + 1) x from ⟨hx, nlt4 c, h'⟩) (h (d' + 1))
  · exact e'
/-! ### doors -/
theorem door_st : ∀ r : Nat, r < 64 → ∀ j : Nat, j < 6 → nI (r % 2 ^ j) ||| (f_X3_holds_r (nI r) (nI j) <<< (nI j &&& 31)) = nI (r % 2 ^ (j + 1)) := by decide +kernel
theorem door_z : ∀ j : Nat, j < 6 → (0 : Int32) ||| ((0 : Int32) <<< (nI j &&& 31)) = 0 := by decide +kernel
def opn (tn : Int32) (r j : Nat) : Int32 := if tn = 0 then nI (r % 2 ^ j) else 0
theorem opn_0 (tn : Int32) (r : Nat) : opn tn r 0 = 0 := by
  unfold opn
  rw [Nat.pow_zero, Nat.mod_one, nI_0]
  split <;> rfl
theorem opn_s {r j : Nat} (hx : vp_in x 12) (hr : r < 64) (hj : j < 6) (e : f_X2_roomsOf_r th tr x = nI r) : (opn (f_X2_isTainted_r th td tl x) r j ||| (f_L_door_r th tr td tl x (nI j) <<< (nI j &&& 31))) = opn (f_X2_isTainted_r th td tl x) r (j + 1) := by
  rw [door_q hx hj, e]
  unfold opn
  split
  · exact door_st r hr j hj
  · exact door_z j hj
theorem opn_6 {r : Nat} (hr : r < 64) (e : f_X2_roomsOf_r th tr x = nI r) : opn (f_X2_isTainted_r th td tl x) r 6 = (if f_X2_isTainted_r th td tl x = 1 then 0 else f_X2_roomsOf_r th tr x) := by
  unfold opn
  rcases ta_b th td tl x with q | q
  · rw [q, if_pos rfl, if_neg (by decide), e, Nat.mod_eq_of_lt hr]
  · rw [q, if_neg (by decide), if_pos rfl]
end AP
/-! ### sessions -/
section AS
variable {de : Nat → Int32} {nw x : Int32} {w : Nat}
theorem ap1 (hnw : nw = nI w) (hw : w < 100000) : f_X0_isInSession_r de x nw = (if vE de nw x ≤ nw then 0 else 1) := by
  unfold f_X0_isInSession_r vE
  by_cases c : de x.toNatClampNeg ≤ nw
  · rw [if_pos c, if_pos c, if_pos]
    rw [hnw]
    exact Int32.le_iff_toInt_le.mpr (by rw [nI_toInt (by omega)]; show (-1 : Int) ≤ _; omega)
  · rw [if_neg c, if_neg c, if_neg c]
theorem ap2 (hnw : nw = nI w) (hw : w < 100000) (hx : vp_in x 12) (hde : ∀ j, j < 12 → ∃ e, e ≤ w + 30 ∧ de j = nI e) : ¬ nw + 30 < vE de nw x := by
  obtain ⟨e, he, q⟩ := hde _ (vp_lt hx)
  unfold vE
  rw [hnw, show (30 : Int32) = nI 30 from rfl, nI_add]
  split
  · intro z
    have := Int32.lt_iff_toInt_lt.mp z
    rw [nI_toInt (by omega)] at this
    have m : ((-1 : Int32)).toInt = -1 := by decide
    omega
  · rw [q]
    exact nI_nlt he (by omega)
theorem ap3 (c : ¬ nw < vE de nw x) : vE de nw x = -1 := by
  unfold vE at c ⊢
  by_cases d : de x.toNatClampNeg ≤ nw
  · rw [if_pos d]
  · rw [if_neg d] at c
    exact absurd (Int32.not_le.mp d) c
end AS
/-! ### keys -/
theorem key_st (kk : Nat → Int32) (nw : Int32) (de th td tl : Nat → Int32) (p0 x m : Int32) (n : Nat) (hx : vp_in x 12) : FX3_countUsers_4_x2 (n + 1) m x kk nw de th td tl p0 = FX3_countUsers_4_x2 n (m + (if ((kk (p0).toNatClampNeg) >>> (x &&& 31)) &&& 1 = 1 then (if f_X0_isInSession_r de x nw = 1 then (if f_X2_isTrusted_r th x = 1 then (if f_X2_isTainted_r th td tl x = 0 then 1 else 0) else 0) else 0) else 0)) (x + 1) kk nw de th td tl p0 := by
  show (if 12 ≤ x then m else _) = _
  rw [if_neg (ap_12 hx)]
  unfold f_X3_holds_r f_X3_mayAct_r
  by_cases c : ((kk (p0).toNatClampNeg) >>> (x &&& 31)) &&& 1 = 1
  · rw [if_pos c, if_pos c, if_neg (show ¬ (1 : Int32) = 0 by decide)]
    rcases in_b de x nw with e | e <;> rcases tr_b th x with f | f <;> rcases ta_b th td tl x with g | g <;> simp [e, f, g]
  · rw [if_neg c, if_neg c, if_pos rfl, Int32.add_zero]
theorem key_end (kk : Nat → Int32) (nw : Int32) (de th td tl : Nat → Int32) (p0 x m : Int32) (n : Nat) (hx : 12 ≤ x) : FX3_countUsers_4_x2 (n + 1) m x kk nw de th td tl p0 = m := by
  show (if 12 ≤ x then m else _) = _
  rw [if_pos hx]
