/-! ### facts for the acts -/
theorem wrong_w {d : Int32} {j : Nat} (h : ∃ k : Nat, k < 1000 ∧ d = nI k) (hj : j < 999) : ∃ k : Nat, k < 1000 ∧ ¬ nI k = d ∧ ((d + 1) + nI j) - ((d + 1) + nI j) / 1000 * 1000 = nI k := by
  obtain ⟨a, ha, rfl⟩ := h
  refine ⟨(a + 1 + j) % 1000, Nat.mod_lt _ (by decide), fun q => ?_, ?_⟩
  · have := (nI_eq (by omega) (by omega)).mp q
    omega
  · rw [nI_1, nI_add, show (1000 : Int32) = nI 1000 from rfl, pk_rem (by omega) (by decide) (by decide)]
theorem code_in {p nw : Int32} {t w : Nat} (hp : vp_in p 12) (hw : w ≤ 12 * t) (ht : t < 100) (e : nw = nI w) : vp_in (f_X0_codeOf_r p nw) 10 := by
  obtain ⟨a, ha, rfl⟩ := vp_in_of hp (by decide)
  subst e
  unfold f_X0_codeOf_r
  rw [show (7 : Int32) = nI 7 from rfl, show (3 : Int32) = nI 3 from rfl, pk_mul, pk_mul, nI_add, show (10 : Int32) = nI 10 from rfl, pk_rem (by omega) (by decide) (by decide)]
  exact vp_in_nI (Nat.mod_lt _ (by decide)) (by decide)
theorem vw {d : Int32} (h : ∃ k : Nat, k < 1000 ∧ d = nI k) : vp_in d 1000 := by
  obtain ⟨a, ha, rfl⟩ := h
  exact vp_in_nI ha (by decide)
theorem cf_df {df : Nat → Int32} {p : Int32} (h : df p.toNatClampNeg = 0 ∨ df p.toNatClampNeg = 1 ∨ df p.toNatClampNeg = 2) : f_X0_countFailure_df df p p.toNatClampNeg = (df p.toNatClampNeg + 1) - (df p.toNatClampNeg + 1) / 3 * 3 := by
  unfold f_X0_countFailure_df
  rw [upd_at]
  rcases cf_at h with ⟨c, e, _⟩ | ⟨c, e, _⟩
  · rw [if_pos c, upd_at, e]
  · rw [if_neg c, upd_at, e]
theorem cf_rest {df dr : Nat → Int32} {p nw : Int32} {t w : Nat} (h : df p.toNatClampNeg = 0 ∨ df p.toNatClampNeg = 1 ∨ df p.toNatClampNeg = 2) (c0 : ¬ df p.toNatClampNeg < 2) (hw : w ≤ 12 * t) (ht : t < 100) (e : nw = nI w) : ¬ f_X0_countFailure_dr df dr p nw p.toNatClampNeg ≤ nw := by
  unfold f_X0_countFailure_dr
  rw [upd_at]
  rcases cf_at h with ⟨c, _, _, c2⟩ | ⟨c, _, _⟩
  · exact absurd c2 c0
  · rw [if_neg c, upd_at, e, show (10 : Int32) = nI 10 from rfl, nI_add]
    exact nI_ge (a := w) (b := w + 10) (by omega) (by omega)
theorem vE_upd {de : Nat → Int32} {p nw : Int32} {t w : Nat} (hw : w ≤ 12 * t) (ht : t < 100) (e : nw = nI w) : vE (upd de p.toNatClampNeg (nw + 30)) nw p = (nw + 30) := by
  unfold vE
  rw [upd_at, if_neg]
  rw [e, show (30 : Int32) = nI 30 from rfl, nI_add]
  exact nI_ge (a := w) (b := w + 30) (by omega) (by omega)
theorem may_e (nw : Int32) (de th td tl : Nat → Int32) (p : Int32) : (if f_X0_isInSession_r de p nw = 1 then (if f_X2_isTrusted_r th p = 1 then (if f_X2_isTainted_r th td tl p = 0 then 1 else 0) else 0) else 0) = f_X3_mayAct_r nw de th td tl p := by
  unfold f_X3_mayAct_r
  rcases in_b de p nw with e | e <;> rcases tr_b th p with f | f <;> rcases ta_b th td tl p with g | g <;> simp [e, f, g]
theorem rooms_v {th tr : Nat → Int32} {p g s : Int32} (hth : ∀ j : Nat, j < 12 → inN (upd th g.toNatClampNeg p j)) (hp : vp_in p 12) (hg : vp_in g 12) (h4 : 4 ≤ g) (e1 : f_X2_isTrusted_r (upd th g.toNatClampNeg p) g = 1) : f_X2_roomsOf_r (upd th g.toNatClampNeg p) (upd tr g.toNatClampNeg s) g = (s &&& f_X2_roomsOf_r (upd th g.toNatClampNeg p) (upd tr g.toNatClampNeg s) p) := by
  have := rooms_g (tr := upd tr g.toNatClampNeg s) hth hg h4 (by rw [upd_at]; exact hp) e1
  rw [upd_at, upd_at] at this
  exact this
theorem trust_v {th : Nat → Int32} {p g : Int32} (hth : ∀ j : Nat, j < 12 → inN (upd th g.toNatClampNeg p j)) (hp : vp_in p 12) (hg : vp_in g 12) (h4 : 4 ≤ g) (e1 : ¬ f_X2_isTrusted_r (upd th g.toNatClampNeg p) g = 1) : f_X2_stepsToStaff_r (upd th g.toNatClampNeg p) p = -1 := by
  have := trust_no hth hg h4 (by rw [upd_at]; exact hp) e1
  rw [upd_at] at this
  exact this
theorem no_tr {th : Nat → Int32} {x : Int32} (hth : ∀ j : Nat, j < 12 → inN (th j)) (hx : vp_in x 12) (c : 4 ≤ x) (h : th x.toNatClampNeg = -1) : f_X2_isTrusted_r th x = 0 := by
  unfold f_X2_isTrusted_r
  rw [ap_c1 hth hx c h, if_pos rfl]
theorem host_ge {th : Nat → Int32} {x : Int32} (hth : ∀ j : Nat, j < 12 → inN (th j)) (hx : vp_in x 12) (c : ¬ th x.toNatClampNeg = -1) : 0 ≤ th x.toNatClampNeg := by
  rcases hth _ (vp_lt hx) with h | h
  · exact absurd h c
  · obtain ⟨j, hj, e⟩ := vp_in_of h (by decide)
    rw [e]
    exact nI_pos' (by omega)
theorem bc_64 : ∀ a : Nat, a < 64 → ∀ b : Nat, b < 64 → 64 * a + b = 0 ∨ (1 : Int32) ≤ f_J6_bitCount_0f7a4_r (nI (64 * a + b)) := by decide +kernel
theorem bc_ge {j : Nat} (h : j < 4095) : (1 : Int32) ≤ f_J6_bitCount_0f7a4_r (nI (1 + j)) := by
  rcases bc_64 ((1 + j) / 64) (by omega) ((1 + j) % 64) (by omega) with q | q
  · omega
  · rwa [show 64 * ((1 + j) / 64) + (1 + j) % 64 = 1 + j by omega] at q
theorem tn_p (tn : Int32) : tn = (tn + 1) - 1 := (Int32.add_sub_cancel tn 1).symm
theorem gu_in {j : Nat} (hj : j < 8) : vp_in (nI (4 + j)) 12 := vp_in_nI (by omega) (by decide)
theorem gu_4 {j : Nat} (hj : j < 8) : 4 ≤ nI (4 + j) := nI_le (a := 4) (b := 4 + j) (by omega) (by omega)
theorem gu_g {j : Nat} (hj : j < 8) : ¬ f_X3_isGuest_r (nI (4 + j)) = 0 := gs_ne (gu_in hj) (nlt4 (gu_4 hj))
theorem one_lt {j : Nat} (hj : j < 100000) : ¬ nI (1 + j) < 1 := nI_nlt (a := 1 + j) (b := 1) (by omega) (by omega)
theorem one_le {j n : Nat} (hj : j < n) (hn : n < 100000) : nI (1 + j) ≤ nI n := nI_le (by omega) (by omega)
section PI2
variable {t : Nat} {kt : Nat → Int32} {nw : Int32} {dw df dr de th tm tb td tg tl : Nat → Int32} {tn : Int32} {lk lp lg lm : Nat → Int32} {ls lv : Int32} {gg wA bb : Nat → Int32}
theorem pi_lv100 (h : PInv t kt nw dw df dr de th tm tb td tg tl tn lk lp lg lm ls lv gg wA bb) (ht : t < 100) : lv < 100 ∧ ¬ 100 ≤ lv := by
  obtain ⟨N, hN, e⟩ := pi_lv h
  rw [e]
  exact ⟨nI_lt (a := N) (b := 100) (by omega) (by decide), nI_ge (a := N) (b := 100) (by omega) (by decide)⟩
theorem pi_nw1 (h : PInv t kt nw dw df dr de th tm tb td tg tl tn lk lp lg lm ls lv gg wA bb) (ht : t < 100) : ¬ nw + 1 = 0 ∧ ¬ nw + 1 < 0 ∧ ¬ nw + 1 ≤ nw := by
  obtain ⟨w, hw, e, _⟩ := pi_nw h
  rw [e, nI_1]
  exact ⟨nI_ne0 (by omega) (by omega), nI_pos (by omega), nI_ge (a := w) (b := w + 1) (by omega) (by omega)⟩
theorem pi_low (h : PInv t kt nw dw df dr de th tm tb td tg tl tn lk lp lg lm ls lv gg wA bb) (ht : t < 100) (x : Int32) : ∃ j : Nat, ¬ nI j < 0 ∧ nI j ≤ nw ∧ f_L_low_r x (nw + 1) = nI j := by
  obtain ⟨w, hw, e, _⟩ := pi_nw h
  subst e
  obtain ⟨j, hj, q⟩ := low_is x (N := w + 1) (by omega) (by omega)
  rw [nI_1]
  exact ⟨j, nI_pos (by omega), nI_le (by omega) (by omega), q⟩
end PI2
def mkS (kk kt : Nat → Int32) (nw : Int32) (dw df dr de th tr tm tb td tg tl : Nat → Int32) (tn : Int32) (uh ur um ub ud ug ul : Nat → Int32) (un : Int32) (lk lp lg lm : Nat → Int32) (ls lv : Int32) (gg wA bb : Nat → Int32) : Nat → Nat → Int32 := fun k => match k with
  | 0 => kk
  | 1 => kt
  | 2 => fun _ => nw
  | 3 => dw
  | 4 => df
  | 5 => dr
  | 6 => de
  | 7 => th
  | 8 => tr
  | 9 => tm
  | 10 => tb
  | 11 => td
  | 12 => tg
  | 13 => tl
  | 14 => fun _ => tn
  | 15 => uh
  | 16 => ur
  | 17 => um
  | 18 => ub
  | 19 => ud
  | 20 => ug
  | 21 => ul
  | 22 => fun _ => un
  | 23 => lk
  | 24 => lp
  | 25 => lg
  | 26 => lm
  | 27 => fun _ => ls
  | 28 => fun _ => lv
  | 29 => gg
  | 30 => wA
  | _ => bb
