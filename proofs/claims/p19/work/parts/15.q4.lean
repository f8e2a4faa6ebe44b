/-! ### what holds between the acts -/
def LOG (t : Nat) (lk lp lg lm : Nat → Int32) (ls : Int32) (T : T7) : Prop := ∃ L : Nat, L ≤ t ∧ ls = nI L ∧ (∀ j : Nat, j < L → evOK lk lp lg j) ∧ ∀ S : T7, freshT S → eqvT (rpF lk lp lg lm L 0 S) T
theorem log_tie {t : Nat} (ht : t < 512) {th tm tb td tg tl lk lp lg lm : Nat → Int32} {tn ls : Int32} (h : LOG t lk lp lg lm ls (th, tm, tb, td, tg, tl, tn)) {p g : Int32} (hp : vp_in p 12) (hg : vp_in g 12) (w : Int32) : LOG (t + 1) (upd lk ls.toNatClampNeg 0) (upd lp ls.toNatClampNeg p) (upd lg ls.toNatClampNeg g) (upd lm ls.toNatClampNeg w) (ls + 1) (upd th g.toNatClampNeg p, upd tm g.toNatClampNeg w, upd tb g.toNatClampNeg (tg p.toNatClampNeg), upd td g.toNatClampNeg 0, tg, tl, tn) := by
  obtain ⟨L, hL2, rfl, hL3, hL4⟩ := h
  rw [zc_nat (n := L) (by omega), nI_1]
  obtain ⟨a1, a2⟩ := rp_more (by omega) hL3 hL4 0 p g w ⟨fun _ => by rw [upd_at, upd_at]; exact ⟨hp, hg⟩, fun z => by rw [upd_at] at z; exact absurd z (by decide), fun z => by rw [upd_at] at z; exact absurd rfl z⟩
  refine ⟨L + 1, by omega, rfl, a1, fun S hS => ?_⟩
  have := a2 S hS
  unfold stepT f_X1_replayOne_th f_X1_replayOne_tm f_X1_replayOne_tb f_X1_replayOne_td f_X1_replayOne_tg f_X1_replayOne_tl f_X1_replayOne_tn at this
  rw [zc_nat (n := L) (by omega), upd_at, upd_at, upd_at, upd_at] at this
  simp only [if_true] at this
  exact this
theorem log_end {t : Nat} (ht : t < 512) {th tm tb td tg tl lk lp lg lm : Nat → Int32} {tn ls : Int32} (h : LOG t lk lp lg lm ls (th, tm, tb, td, tg, tl, tn)) {g : Int32} (hg : vp_in g 12) : LOG (t + 1) (upd lk ls.toNatClampNeg 1) (upd lp ls.toNatClampNeg (-1)) (upd lg ls.toNatClampNeg g) (upd lm ls.toNatClampNeg 0) (ls + 1) (upd th g.toNatClampNeg (-1), tm, tb, upd td g.toNatClampNeg 0, tg, tl, tn) := by
  obtain ⟨L, hL2, rfl, hL3, hL4⟩ := h
  rw [zc_nat (n := L) (by omega), nI_1]
  obtain ⟨a1, a2⟩ := rp_more (by omega) hL3 hL4 1 (-1) g 0 ⟨fun z => by rw [upd_at] at z; exact absurd z (by decide), fun _ => by rw [upd_at]; exact hg, fun _ z => by rw [upd_at] at z; exact absurd rfl z⟩
  refine ⟨L + 1, by omega, rfl, a1, fun S hS => ?_⟩
  have := a2 S hS
  unfold stepT f_X1_replayOne_th f_X1_replayOne_tm f_X1_replayOne_tb f_X1_replayOne_td f_X1_replayOne_tg f_X1_replayOne_tl f_X1_replayOne_tn at this
  rw [zc_nat (n := L) (by omega), upd_at, upd_at, upd_at, upd_at] at this
  simp only [if_neg (show ¬ (1 : Int32) = 0 by decide), if_true] at this
  exact this
theorem log_lose {t : Nat} (ht : t < 512) {th tm tb td tg tl lk lp lg lm : Nat → Int32} {tn ls : Int32} (h : LOG t lk lp lg lm ls (th, tm, tb, td, tg, tl, tn)) {p : Int32} (hp : vp_in p 12) (q : Int32) : LOG (t + 1) (upd lk ls.toNatClampNeg 2) (upd lp ls.toNatClampNeg p) (upd lg ls.toNatClampNeg (-1)) (upd lm ls.toNatClampNeg q) (ls + 1) (th, tm, tb, f_X2_markLost_td th tm tb td tg p q, tg, upd tl p.toNatClampNeg 1, tn) := by
  obtain ⟨L, hL2, rfl, hL3, hL4⟩ := h
  rw [zc_nat (n := L) (by omega), nI_1]
  obtain ⟨a1, a2⟩ := rp_more (by omega) hL3 hL4 2 p (-1) q ⟨fun z => by rw [upd_at] at z; exact absurd z (by decide), fun z => by rw [upd_at] at z; exact absurd z (by decide), fun _ _ => by rw [upd_at]; exact hp⟩
  refine ⟨L + 1, by omega, rfl, a1, fun S hS => ?_⟩
  have := a2 S hS
  unfold stepT f_X1_replayOne_th f_X1_replayOne_tm f_X1_replayOne_tb f_X1_replayOne_td f_X1_replayOne_tg f_X1_replayOne_tl f_X1_replayOne_tn at this
  rw [zc_nat (n := L) (by omega), upd_at, upd_at, upd_at, upd_at] at this
  simp only [if_neg (show ¬ (2 : Int32) = 0 by decide), if_neg (show ¬ (2 : Int32) = 1 by decide), if_true] at this
  exact this
theorem log_issue {t : Nat} (ht : t < 512) {th tm tb td tg tl lk lp lg lm : Nat → Int32} {tn ls : Int32} (h : LOG t lk lp lg lm ls (th, tm, tb, td, tg, tl, tn)) {p : Int32} (hp : vp_in p 12) : LOG (t + 1) (upd lk ls.toNatClampNeg 3) (upd lp ls.toNatClampNeg p) (upd lg ls.toNatClampNeg (-1)) (upd lm ls.toNatClampNeg 0) (ls + 1) (th, tm, tb, td, upd tg p.toNatClampNeg tn, upd tl p.toNatClampNeg 0, tn + 1) := by
  obtain ⟨L, hL2, rfl, hL3, hL4⟩ := h
  rw [zc_nat (n := L) (by omega), nI_1]
  obtain ⟨a1, a2⟩ := rp_more (by omega) hL3 hL4 3 p (-1) 0 ⟨fun z => by rw [upd_at] at z; exact absurd z (by decide), fun z => by rw [upd_at] at z; exact absurd z (by decide), fun _ _ => by rw [upd_at]; exact hp⟩
  refine ⟨L + 1, by omega, rfl, a1, fun S hS => ?_⟩
  have := a2 S hS
  unfold stepT f_X1_replayOne_th f_X1_replayOne_tm f_X1_replayOne_tb f_X1_replayOne_td f_X1_replayOne_tg f_X1_replayOne_tl f_X1_replayOne_tn at this
  rw [zc_nat (n := L) (by omega), upd_at, upd_at, upd_at, upd_at] at this
  simp only [if_neg (show ¬ (3 : Int32) = 0 by decide), if_neg (show ¬ (3 : Int32) = 1 by decide), if_neg (show ¬ (3 : Int32) = 2 by decide)] at this
  exact this
def PInv (t : Nat) (kt : Nat → Int32) (nw : Int32) (dw df dr de th tm tb td tg tl : Nat → Int32) (tn : Int32) (lk lp lg lm : Nat → Int32) (ls lv : Int32) (gg wA bb : Nat → Int32) : Prop :=
  (∃ w : Nat, w ≤ 12 * t ∧ nw = nI w ∧ ∀ j : Nat, j < 12 → ∃ e : Nat, e ≤ w + 30 ∧ de j = nI e) ∧
  (∀ j : Nat, j < 12 → ∃ k : Nat, k < 1000 ∧ dw j = nI k) ∧
  (∀ j : Nat, j < 12 → (df j = 0 ∨ df j = 1 ∨ df j = 2) ∧ (¬ dr j ≤ nw → df j = 0)) ∧
  tieP th ∧
  (∀ j : Nat, j < 12 → ∃ b : Nat, b < 12 + t ∧ tg j = nI b) ∧
  (∃ B : Nat, B ≤ 12 + t ∧ tn = nI B) ∧
  (∃ N : Nat, N ≤ t ∧ lv = nI N) ∧
  (∀ j : Nat, j < 4 → kt j = 1) ∧
  LOG t lk lp lg lm ls (th, tm, tb, td, tg, tl, tn) ∧
  gg 0 = nw ∧ gg 1 = lv ∧ gg 2 = tn ∧ (∀ j : Nat, j < 12 → wA j = dw j) ∧ (∀ j : Nat, j < 12 → bb j = tg j)
section PI
variable {t : Nat} {kt : Nat → Int32} {nw : Int32} {dw df dr de th tm tb td tg tl : Nat → Int32} {tn : Int32} {lk lp lg lm : Nat → Int32} {ls lv : Int32} {gg wA bb : Nat → Int32}
theorem pi_mono (h : PInv t kt nw dw df dr de th tm tb td tg tl tn lk lp lg lm ls lv gg wA bb) : PInv (t + 1) kt nw dw df dr de th tm tb td tg tl tn lk lp lg lm ls lv gg wA bb := by
  obtain ⟨⟨w, h1, h1b, h1c⟩, h2, h3, h4, h5, ⟨B, h6, h6b⟩, ⟨N, h7, h7b⟩, h8, ⟨L, h9, h9b⟩, h10⟩ := h
  exact ⟨⟨w, by omega, h1b, h1c⟩, h2, h3, h4, fun j hj => by obtain ⟨b, e, q⟩ := h5 j hj; exact ⟨b, by omega, q⟩, ⟨B, by omega, h6b⟩, ⟨N, by omega, h7b⟩, h8, ⟨L, by omega, h9b⟩, h10⟩
theorem pi_th (h : PInv t kt nw dw df dr de th tm tb td tg tl tn lk lp lg lm ls lv gg wA bb) : tieP th := h.2.2.2.1
theorem pi_hls (h : PInv t kt nw dw df dr de th tm tb td tg tl tn lk lp lg lm ls lv gg wA bb) (ht : t ≤ 100) : ¬ ls < 0 := by
  obtain ⟨h1, h2, h3, h4, h5, h6, h7, h8, ⟨L, h9, h9b, h9c⟩, h10⟩ := h
  rw [h9b]
  exact nI_pos (by omega)
theorem pi_log (h : PInv t kt nw dw df dr de th tm tb td tg tl tn lk lp lg lm ls lv gg wA bb) (ht : t ≤ 100) : (ls = nI ls.toNatClampNeg ∧ ls.toNatClampNeg ≤ 512) ∧ (∀ j : Nat, j < ls.toNatClampNeg → evOK lk lp lg j) ∧ ls < 512 := by
  obtain ⟨h1, h2, h3, h4, h5, h6, h7, h8, ⟨L, h9, rfl, h9c, h9d⟩, h10⟩ := h
  rw [zc_nat (n := L) (by omega)]
  exact ⟨⟨rfl, by omega⟩, h9c, (nI_ltI (a := L) (b := 512) (by omega) (by decide)).mpr (by omega)⟩
theorem pi_huh (h : PInv t kt nw dw df dr de th tm tb td tg tl tn lk lp lg lm ls lv gg wA bb) (ht : t ≤ 100) (uh um ub ud ug ul : Nat → Int32) : ∀ j : Nat, j < 12 → inN ((f_X1_replayInto_th lk lp lg lm ls uh um ub ud ug ul) j) := by
  obtain ⟨h1, h2, h3, h4, h5, h6, h7, h8, ⟨L, h9, rfl, h9c, h9d⟩, h10⟩ := h
  intro j hj
  rw [(replay_eq (n := 100) (by omega) (by omega) h9d uh um ub ud ug ul j hj).1]
  exact tieP_th h4 j hj
theorem pi_an (h : PInv t kt nw dw df dr de th tm tb td tg tl tn lk lp lg lm ls lv gg wA bb) (ht : t ≤ 100) (uh um ub ud ug ul : Nat → Int32) {p : Int32} (hp : vp_in p 12) : f_X2_isTainted_r (f_X1_replayInto_th lk lp lg lm ls uh um ub ud ug ul) (f_X1_replayInto_td lk lp lg lm ls uh um ub ud ug ul) (f_X1_replayInto_tl lk lp lg lm ls uh um ub ud ug ul) p = f_X2_isTainted_r th td tl p := by
  obtain ⟨h1, h2, h3, h4, h5, h6, h7, h8, ⟨L, h9, rfl, h9c, h9d⟩, h10⟩ := h
  exact anew_eq (n := 100) (by omega) (by omega) h9d (tieP_th h4) uh um ub ud ug ul hp
theorem pi_tg (h : PInv t kt nw dw df dr de th tm tb td tg tl tn lk lp lg lm ls lv gg wA bb) (ht : t ≤ 100) : ∀ j : Nat, j < 12 → tg j = nI (tg j).toNatClampNeg ∧ (tg j).toNatClampNeg < 1000 := by
  obtain ⟨h1, h2, h3, h4, h5, h6⟩ := h
  intro j hj
  obtain ⟨b, hb, e⟩ := h5 j hj
  rw [e, zc_nat (n := b) (by omega)]
  exact ⟨rfl, by omega⟩
theorem pi_nw (h : PInv t kt nw dw df dr de th tm tb td tg tl tn lk lp lg lm ls lv gg wA bb) : ∃ w : Nat, w ≤ 12 * t ∧ nw = nI w ∧ ∀ j : Nat, j < 12 → ∃ e : Nat, e ≤ w + 30 ∧ de j = nI e := h.1
theorem pi_g (h : PInv t kt nw dw df dr de th tm tb td tg tl tn lk lp lg lm ls lv gg wA bb) : gg 0 = nw ∧ gg 1 = lv ∧ gg 2 = tn ∧ (∀ j : Nat, j < 12 → wA j = dw j) ∧ (∀ j : Nat, j < 12 → bb j = tg j) := h.2.2.2.2.2.2.2.2.2
theorem pi_kt (h : PInv t kt nw dw df dr de th tm tb td tg tl tn lk lp lg lm ls lv gg wA bb) : ∀ j : Nat, j < 4 → kt j = 1 := h.2.2.2.2.2.2.2.1
theorem pi_f (h : PInv t kt nw dw df dr de th tm tb td tg tl tn lk lp lg lm ls lv gg wA bb) : ∀ j : Nat, j < 12 → (df j = 0 ∨ df j = 1 ∨ df j = 2) ∧ (¬ dr j ≤ nw → df j = 0) := h.2.2.1
theorem pi_dw (h : PInv t kt nw dw df dr de th tm tb td tg tl tn lk lp lg lm ls lv gg wA bb) : ∀ j : Nat, j < 12 → ∃ k : Nat, k < 1000 ∧ dw j = nI k := h.2.1
theorem pi_lv (h : PInv t kt nw dw df dr de th tm tb td tg tl tn lk lp lg lm ls lv gg wA bb) : ∃ N : Nat, N ≤ t ∧ lv = nI N := h.2.2.2.2.2.2.1
theorem pi_tn (h : PInv t kt nw dw df dr de th tm tb td tg tl tn lk lp lg lm ls lv gg wA bb) : ∃ B : Nat, B ≤ 12 + t ∧ tn = nI B := h.2.2.2.2.2.1
theorem pi_in (h : PInv t kt nw dw df dr de th tm tb td tg tl tn lk lp lg lm ls lv gg wA bb) {p : Int32} : PInv t kt nw dw (upd df p.toNatClampNeg 0) dr (upd de p.toNatClampNeg (nw + 30)) th tm tb td tg tl tn lk lp lg lm ls lv gg wA bb := by
  obtain ⟨⟨w, h1, h1b, h1c⟩, h2, h3, h4⟩ := h
  refine ⟨⟨w, h1, h1b, fun j hj => ?_⟩, h2, fun j hj => ?_, h4⟩
  · by_cases c : j = p.toNatClampNeg
    · subst c; rw [upd_at]; exact ⟨w + 30, Nat.le_refl _, by rw [h1b, show (30 : Int32) = nI 30 from rfl, nI_add]⟩
    · rw [upd_ne _ _ c]; exact h1c j hj
  · by_cases c : j = p.toNatClampNeg
    · subst c; rw [upd_at]; exact ⟨Or.inl rfl, fun _ => rfl⟩
    · rw [upd_ne _ _ c]; exact h3 j hj
/-- one failure more -/
theorem cf_at {x : Int32} (h : x = 0 ∨ x = 1 ∨ x = 2) : (x + 1 < 3 ∧ x + 1 - (x + 1) / 3 * 3 = x + 1 ∧ (x + 1 = 1 ∨ x + 1 = 2) ∧ x < 2) ∨ (¬ x + 1 < 3 ∧ x + 1 - (x + 1) / 3 * 3 = 0 ∧ ¬ x < 2) := by
  rcases h with rfl | rfl | rfl
  · exact Or.inl (by decide)
  · exact Or.inl (by decide)
  · exact Or.inr (by decide)
theorem pi_wrong (h : PInv t kt nw dw df dr de th tm tb td tg tl tn lk lp lg lm ls lv gg wA bb) {p : Int32} (hp : vp_in p 12) (hd : dr p.toNatClampNeg ≤ nw) : PInv t kt nw dw (f_X0_countFailure_df df p) (f_X0_countFailure_dr df dr p nw) de th tm tb td tg tl tn lk lp lg lm ls lv gg wA bb := by
  obtain ⟨h1, h2, h3, h4⟩ := h
  refine ⟨h1, h2, fun j hj => ?_, h4⟩
  unfold f_X0_countFailure_df f_X0_countFailure_dr
  rw [upd_at]
  rcases cf_at (h3 _ (vp_lt hp)).1 with ⟨c, _, c2, _⟩ | ⟨c, _⟩
  · rw [if_pos c, if_pos c]
    by_cases d : j = p.toNatClampNeg
    · subst d
      rw [upd_at]
      exact ⟨Or.inr c2, fun q => absurd hd q⟩
    · rw [upd_ne _ _ d]; exact h3 j hj
  · rw [if_neg c, if_neg c]
    by_cases d : j = p.toNatClampNeg
    · subst d
      rw [upd_at]
      exact ⟨Or.inl rfl, fun _ => rfl⟩
    · rw [upd_ne _ _ d, upd_ne _ _ d, upd_ne _ _ d]; exact h3 j hj
theorem pi_word (h : PInv t kt nw dw df dr de th tm tb td tg tl tn lk lp lg lm ls lv gg wA bb) {p : Int32} {k : Nat} (hk : k < 1000) : PInv t kt nw (upd dw p.toNatClampNeg (nI k)) df dr de th tm tb td tg tl tn lk lp lg lm ls lv gg (upd wA p.toNatClampNeg (nI k)) bb := by
  obtain ⟨h1, h2, h3, h4, h5, h6, h7, h8, h9, h10, h11, h12, h13, h14⟩ := h
  refine ⟨h1, fun j hj => ?_, h3, h4, h5, h6, h7, h8, h9, h10, h11, h12, fun j hj => ?_, h14⟩
  · by_cases c : j = p.toNatClampNeg
    · subst c; rw [upd_at]; exact ⟨k, hk, rfl⟩
    · rw [upd_ne _ _ c]; exact h2 j hj
  · by_cases c : j = p.toNatClampNeg
    · subst c; rw [upd_at, upd_at]
    · rw [upd_ne _ _ c, upd_ne _ _ c]; exact h13 j hj
theorem pi_w0 (h : PInv t kt nw dw df dr de th tm tb td tg tl tn lk lp lg lm ls lv gg wA bb) {p : Int32} : PInv t kt nw dw df dr de th tm tb td tg tl tn lk lp lg lm ls lv gg (upd wA p.toNatClampNeg (wA p.toNatClampNeg)) bb := by
  obtain ⟨h1, h2, h3, h4, h5, h6, h7, h8, h9, h10, h11, h12, h13, h14⟩ := h
  refine ⟨h1, h2, h3, h4, h5, h6, h7, h8, h9, h10, h11, h12, fun j hj => ?_, h14⟩
  by_cases c : j = p.toNatClampNeg
  · subst c; rw [upd_at]; exact h13 _ hj
  · rw [upd_ne _ _ c]; exact h13 j hj
theorem pi_pass (h : PInv t kt nw dw df dr de th tm tb td tg tl tn lk lp lg lm ls lv gg wA bb) (ht : t < 100) {k : Nat} (hk : k ≤ 12) : PInv (t + 1) kt (nw + nI k) dw df dr de th tm tb td tg tl tn lk lp lg lm ls lv (upd gg 0 (nw + nI k)) wA bb := by
  obtain ⟨⟨w, h1, rfl, h1c⟩, h2, h3, h4⟩ := pi_mono h
  obtain ⟨⟨w', h1', e', h1c'⟩, _⟩ := h
  have hw : w' = w := (nI_eq (by omega) (by omega)).mp e'.symm
  subst hw
  obtain ⟨h5, h6, h7, h8, h9, h10, h11, h12, h13, h14⟩ := h4.2
  refine ⟨⟨w' + k, by omega, nI_add _ _, fun j hj => by obtain ⟨e, he, q⟩ := h1c j hj; exact ⟨e, by omega, q⟩⟩, h2, fun j hj => ⟨(h3 j hj).1, fun q => (h3 j hj).2 (fun z => q ?_)⟩, h4.1, h5, h6, h7, h8, h9, by rw [upd_at], by rw [upd_ne _ _ (by decide)]; exact h11, by rw [upd_ne _ _ (by decide)]; exact h12, h13, h14⟩
  rw [nI_add]
  have a := Int32.le_iff_toInt_le.mp z
  refine Int32.le_iff_toInt_le.mpr ?_
  rw [nI_toInt (by omega)] at a ⊢
  omega
theorem pi_vouch (h : PInv t kt nw dw df dr de th tm tb td tg tl tn lk lp lg lm ls lv gg wA bb) (ht : t < 100) {p g : Int32} (hp : vp_in p 12) (hg : vp_in g 12) (h4 : 4 ≤ g) (hn : ¬ p = g) : PInv (t + 1) kt nw dw df dr de (upd th g.toNatClampNeg p) (upd tm g.toNatClampNeg nw) (upd tb g.toNatClampNeg (tg p.toNatClampNeg)) (upd td g.toNatClampNeg 0) tg tl tn (upd lk ls.toNatClampNeg 0) (upd lp ls.toNatClampNeg p) (upd lg ls.toNatClampNeg g) (upd lm ls.toNatClampNeg nw) (ls + 1) (lv + 1) (upd gg 1 (lv + 1)) wA bb := by
  have hl := log_tie (by omega) h.2.2.2.2.2.2.2.2.1 hp hg nw
  obtain ⟨N, hN, rfl⟩ := pi_lv h
  obtain ⟨a1, a2, a3, a4, a5, a6, a7, a8, a9, a10, a11, a12, a13, a14⟩ := pi_mono h
  refine ⟨a1, a2, a3, fun j hj => ?_, a5, a6, ⟨N + 1, by omega, nI_1 _⟩, a8, hl, by rw [upd_ne _ _ (by decide)]; exact a10, by rw [upd_at], by rw [upd_ne _ _ (by decide)]; exact a12, a13, a14⟩
  by_cases c : j = g.toNatClampNeg
  · subst c
    rw [upd_at]
    refine Or.inr ⟨?_, hp, fun e => hn ?_⟩
    · rw [vp_of_nI hg (by decide)] at h4
      exact (nI_leI (a := 4) (b := g.toNatClampNeg) (by decide) (by omega)).mp h4
    · rw [vp_of_nI hp (by decide), vp_of_nI hg (by decide), e]
  · rw [upd_ne _ _ c]; exact a4 j hj
theorem pi_end (h : PInv t kt nw dw df dr de th tm tb td tg tl tn lk lp lg lm ls lv gg wA bb) (ht : t < 100) {g : Int32} (hg : vp_in g 12) : PInv (t + 1) kt nw dw df dr de (upd th g.toNatClampNeg (-1)) tm tb (upd td g.toNatClampNeg 0) tg tl tn (upd lk ls.toNatClampNeg 1) (upd lp ls.toNatClampNeg (-1)) (upd lg ls.toNatClampNeg g) (upd lm ls.toNatClampNeg 0) (ls + 1) lv gg wA bb := by
  have hl := log_end (by omega) h.2.2.2.2.2.2.2.2.1 hg
  obtain ⟨a1, a2, a3, a4, a5, a6, a7, a8, a9, a10⟩ := pi_mono h
  refine ⟨a1, a2, a3, fun j hj => ?_, a5, a6, a7, a8, hl, a10⟩
  by_cases c : j = g.toNatClampNeg
  · subst c; rw [upd_at]; exact Or.inl rfl
  · rw [upd_ne _ _ c]; exact a4 j hj
theorem pi_lose (h : PInv t kt nw dw df dr de th tm tb td tg tl tn lk lp lg lm ls lv gg wA bb) (ht : t < 100) {p : Int32} (hp : vp_in p 12) (q : Int32) : PInv (t + 1) kt nw dw df dr de th tm tb (f_X2_markLost_td th tm tb td tg p q) tg (upd tl p.toNatClampNeg 1) tn (upd lk ls.toNatClampNeg 2) (upd lp ls.toNatClampNeg p) (upd lg ls.toNatClampNeg (-1)) (upd lm ls.toNatClampNeg q) (ls + 1) lv gg wA bb := by
  have hl := log_lose (by omega) h.2.2.2.2.2.2.2.2.1 hp q
  obtain ⟨a1, a2, a3, a4, a5, a6, a7, a8, a9, a10⟩ := pi_mono h
  exact ⟨a1, a2, a3, a4, a5, a6, a7, a8, hl, a10⟩
theorem pi_issue (h : PInv t kt nw dw df dr de th tm tb td tg tl tn lk lp lg lm ls lv gg wA bb) (ht : t < 100) {p : Int32} (hp : vp_in p 12) : PInv (t + 1) kt nw dw df dr de th tm tb td (upd tg p.toNatClampNeg tn) (upd tl p.toNatClampNeg 0) (tn + 1) (upd lk ls.toNatClampNeg 3) (upd lp ls.toNatClampNeg p) (upd lg ls.toNatClampNeg (-1)) (upd lm ls.toNatClampNeg 0) (ls + 1) lv (upd gg 2 (tn + 1)) wA (upd bb p.toNatClampNeg tn) := by
  have hl := log_issue (by omega) h.2.2.2.2.2.2.2.2.1 hp
  obtain ⟨B, hB, e⟩ := pi_tn h
  obtain ⟨a1, a2, a3, a4, a5, a6, a7, a8, a9, a10, a11, a12, a13, a14⟩ := pi_mono h
  refine ⟨a1, a2, a3, a4, fun j hj => ?_, ⟨B + 1, by omega, by rw [e]; exact nI_1 _⟩, a7, a8, hl, by rw [upd_ne _ _ (by decide)]; exact a10, by rw [upd_ne _ _ (by decide)]; exact a11, by rw [upd_at], a13, fun j hj => ?_⟩
  · by_cases c : j = p.toNatClampNeg
    · subst c; rw [upd_at]; exact ⟨B, by omega, e⟩
    · rw [upd_ne _ _ c]; exact a5 j hj
  · by_cases c : j = p.toNatClampNeg
    · subst c; rw [upd_at, upd_at]
    · rw [upd_ne _ _ c, upd_ne _ _ c]; exact a14 j hj
theorem pi_share (h : PInv t kt nw dw df dr de th tm tb td tg tl tn lk lp lg lm ls lv gg wA bb) (k : Nat) : PInv t (upd kt k 1) nw dw df dr de th tm tb td tg tl tn lk lp lg lm ls lv gg wA bb := by
  obtain ⟨a1, a2, a3, a4, a5, a6, a7, a8, a9⟩ := h
  refine ⟨a1, a2, a3, a4, a5, a6, a7, fun j hj => ?_, a9⟩
  by_cases c : j = k
  · subst c; rw [upd_at]
  · rw [upd_ne _ _ c]; exact a8 j hj
end PI
