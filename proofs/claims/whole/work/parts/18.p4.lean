/-! ## what holds between the calls -/
def Inv (n : Nat) (th tr tm tb td lk lp lg lm : Nat → Int32) (ls : Int32) (fa bY bg lo : Nat → Int32) (nb vo : Int32) (ho ro we wi ba sg : Nat → Int32) : Prop :=
  (∀ j : Nat, j < 12 → fa j = 0 ∨ fa j = 1 ∨ fa j = 2) ∧ (∃ N : Nat, N ≤ 100 ∧ vo = nI N ∧ tieR N bY ho ro we wi ba th tr tm tb td ∧ ∀ v : Nat, N ≤ v → v < 100 → ba v = 0) ∧ (∀ v : Nat, v < 100 → vp_in (ho v) 12) ∧ (∀ v : Nat, v < 100 → ba v = 0 ∨ ba v = 1) ∧ (∀ j : Nat, j < 12 → lo j = 0 ∨ lo j = 1) ∧ (∃ B : Nat, nb = nI B ∧ B ≤ 12 + n) ∧ (∀ j : Nat, j < 12 → ∃ b : Nat, bg j = nI b ∧ b < 12 + n) ∧ (∃ L : Nat, ls = nI L ∧ L ≤ n ∧ (∀ j : Nat, j < L → evOK lk lp lg j) ∧ ∀ S : T7, freshT S → eqvT (rpF lk lp lg lm L 0 S) (th, tm, tb, td, bg, lo, nb)) ∧ chOK sg
section INV
variable {n : Nat} {th tr tm tb td lk lp lg lm : Nat → Int32} {ls : Int32} {fa bY bg lo : Nat → Int32} {nb vo : Int32} {ho ro we wi ba sg : Nat → Int32}
theorem inv_succ (h : Inv n th tr tm tb td lk lp lg lm ls fa bY bg lo nb vo ho ro we wi ba sg) : Inv (n + 1) th tr tm tb td lk lp lg lm ls fa bY bg lo nb vo ho ro we wi ba sg := by
  obtain ⟨h1, h2, h3, h4, h5, ⟨B, hB, hB2⟩, h7, ⟨L, hL, hL2, hL3⟩, h9⟩ := h
  exact ⟨h1, h2, h3, h4, h5, ⟨B, hB, by omega⟩, fun j hj => by obtain ⟨b, e, hb⟩ := h7 j hj; exact ⟨b, e, by omega⟩, ⟨L, hL, by omega, hL3⟩, h9⟩
theorem inv_fa (h : Inv n th tr tm tb td lk lp lg lm ls fa bY bg lo nb vo ho ro we wi ba sg) {fa' : Nat → Int32} (hf : ∀ j : Nat, j < 12 → fa' j = 0 ∨ fa' j = 1 ∨ fa' j = 2) : Inv n th tr tm tb td lk lp lg lm ls fa' bY bg lo nb vo ho ro we wi ba sg := by
  obtain ⟨h1, h2⟩ := h
  exact ⟨hf, h2⟩
theorem inv_sg (h : Inv n th tr tm tb td lk lp lg lm ls fa bY bg lo nb vo ho ro we wi ba sg) {sg' : Nat → Int32} (hf : chOK sg') : Inv n th tr tm tb td lk lp lg lm ls fa bY bg lo nb vo ho ro we wi ba sg' := by
  obtain ⟨h1, h2, h3, h4, h5, h6, h7, h8, h9⟩ := h
  exact ⟨h1, h2, h3, h4, h5, h6, h7, h8, hf⟩
theorem fa_put {fa : Nat → Int32} (h : ∀ j : Nat, j < 12 → fa j = 0 ∨ fa j = 1 ∨ fa j = 2) (i : Nat) {w : Int32} (hw : w = 0 ∨ w = 1 ∨ w = 2) : ∀ j : Nat, j < 12 → upd fa i w j = 0 ∨ upd fa i w j = 1 ∨ upd fa i w j = 2 := fun j hj => by
  by_cases c : j = i
  · subst c; rw [upd_at]; exact hw
  · rw [upd_ne _ _ c]; exact h j hj
theorem inv_vouch (h : Inv n th tr tm tb td lk lp lg lm ls fa bY bg lo nb vo ho ro we wi ba sg) (hn : n < 512) {p g : Int32} (hp : vp_in p 12) (hg : vp_in g 12) (hg4 : ¬ g < 4) (hv : vo < 100) (r w : Int32) :
    Inv (n + 1) (upd th g.toNatClampNeg p) (upd tr g.toNatClampNeg r) (upd tm g.toNatClampNeg w) (upd tb g.toNatClampNeg (bg p.toNatClampNeg)) (upd td g.toNatClampNeg 0) (upd lk ls.toNatClampNeg 0) (upd lp ls.toNatClampNeg p) (upd lg ls.toNatClampNeg g) (upd lm ls.toNatClampNeg w) (ls + 1) fa (upd bY g.toNatClampNeg vo) bg lo nb (vo + 1) (upd ho vo.toNatClampNeg p) (upd ro vo.toNatClampNeg r) (upd we vo.toNatClampNeg w) (upd wi vo.toNatClampNeg (bg p.toNatClampNeg)) ba sg := by
  obtain ⟨h1, ⟨N, hN, rfl, hR, hb0⟩, h3, h4, h5, ⟨B, hB, hB2⟩, h7, ⟨L, rfl, hL2, hL3, hL4⟩, h9⟩ := h
  have hN2 : N < 100 := (nI_ltI (a := N) (b := 100) (by omega) (by decide)).mp hv
  rw [zc_nat (n := N) (by omega), zc_nat (n := L) (by omega), nI_1, nI_1]
  obtain ⟨a1, a2⟩ := rp_more (by omega) hL3 hL4 0 p g w ⟨fun _ => by rw [upd_at, upd_at]; exact ⟨hp, hg⟩, fun z => by rw [upd_at] at z; exact absurd z (by decide), fun z => by rw [upd_at] at z; exact absurd rfl z⟩
  refine ⟨h1, ⟨N + 1, by omega, rfl, tie_vouch hR hN2 hb0 hp hg hg4 r w _, fun v a b => hb0 v (by omega) b⟩, fun v hv9 => ?_, h4, h5, ⟨B, hB, by omega⟩, fun j hj => by obtain ⟨b, e, hb⟩ := h7 j hj; exact ⟨b, e, by omega⟩, ⟨L + 1, rfl, by omega, a1, fun S hS => ?_⟩, h9⟩
  · by_cases c : v = N
    · subst c; rw [upd_at]; exact hp
    · rw [upd_ne _ _ c]; exact h3 v hv9
  · have := a2 S hS
    unfold stepT f_X1_replayOne_th f_X1_replayOne_tm f_X1_replayOne_tb f_X1_replayOne_td f_X1_replayOne_tg f_X1_replayOne_tl f_X1_replayOne_tn at this
    rw [zc_nat (n := L) (by omega), upd_at, upd_at, upd_at, upd_at] at this
    simp only [if_true] at this
    exact this
theorem inv_end (h : Inv n th tr tm tb td lk lp lg lm ls fa bY bg lo nb vo ho ro we wi ba sg) (hn : n < 512) {g : Int32} (hg : vp_in g 12) :
    Inv (n + 1) (upd th g.toNatClampNeg (-1)) tr tm tb (upd td g.toNatClampNeg 0) (upd lk ls.toNatClampNeg 1) (upd lp ls.toNatClampNeg (-1)) (upd lg ls.toNatClampNeg g) (upd lm ls.toNatClampNeg 0) (ls + 1) fa (upd bY g.toNatClampNeg (-1)) bg lo nb vo ho ro we wi ba sg := by
  obtain ⟨h1, ⟨N, hN, rfl, hR, hb0⟩, h3, h4, h5, ⟨B, hB, hB2⟩, h7, ⟨L, rfl, hL2, hL3, hL4⟩, h9⟩ := h
  rw [zc_nat (n := L) (by omega), nI_1]
  obtain ⟨a1, a2⟩ := rp_more (by omega) hL3 hL4 1 (-1) g 0 ⟨fun z => by rw [upd_at] at z; exact absurd z (by decide), fun _ => by rw [upd_at]; exact hg, fun _ z => by rw [upd_at] at z; exact absurd rfl z⟩
  refine ⟨h1, ⟨N, hN, rfl, tie_end hR _, hb0⟩, h3, h4, h5, ⟨B, hB, by omega⟩, fun j hj => by obtain ⟨b, e, hb⟩ := h7 j hj; exact ⟨b, e, by omega⟩, ⟨L + 1, rfl, by omega, a1, fun S hS => ?_⟩, h9⟩
  have := a2 S hS
  unfold stepT f_X1_replayOne_th f_X1_replayOne_tm f_X1_replayOne_tb f_X1_replayOne_td f_X1_replayOne_tg f_X1_replayOne_tl f_X1_replayOne_tn at this
  rw [zc_nat (n := L) (by omega), upd_at, upd_at, upd_at, upd_at] at this
  simp only [if_neg (show ¬ (1 : Int32) = 0 by decide), if_true] at this
  exact this
theorem inv_lose (h : Inv n th tr tm tb td lk lp lg lm ls fa bY bg lo nb vo ho ro we wi ba sg) (hn : n < 512) {p : Int32} (hp : vp_in p 12) (q : Int32) :
    Inv (n + 1) th tr tm tb (f_X2_markLost_td th tm tb td bg p q) (upd lk ls.toNatClampNeg 2) (upd lp ls.toNatClampNeg p) (upd lg ls.toNatClampNeg (-1)) (upd lm ls.toNatClampNeg q) (ls + 1) fa bY bg (upd lo p.toNatClampNeg 1) nb vo ho ro we wi (FX4_lose_32_vba (vo.toNatClampNeg + 1) 0 ba bg vo ho we wi p q) sg := by
  obtain ⟨h1, ⟨N, hN, rfl, hR, hb0⟩, h3, h4, h5, ⟨B, hB, hB2⟩, h7, ⟨L, rfl, hL2, hL3, hL4⟩, h9⟩ := h
  rw [zc_nat (n := L) (by omega), nI_1]
  obtain ⟨a1, a2⟩ := rp_more (by omega) hL3 hL4 2 p (-1) q ⟨fun z => by rw [upd_at] at z; exact absurd z (by decide), fun z => by rw [upd_at] at z; exact absurd z (by decide), fun _ _ => by rw [upd_at]; exact hp⟩
  refine ⟨h1, ⟨N, hN, rfl, tie_lose hR hN h4 bg hp q, ba_lose0 hN hb0 bg p q⟩, h3, ba_lose hN h4 bg p q, bl_upd h5 _ _ (Or.inr rfl), ⟨B, hB, by omega⟩, fun j hj => by obtain ⟨b, e, hb⟩ := h7 j hj; exact ⟨b, e, by omega⟩, ⟨L + 1, rfl, by omega, a1, fun S hS => ?_⟩, h9⟩
  have := a2 S hS
  unfold stepT f_X1_replayOne_th f_X1_replayOne_tm f_X1_replayOne_tb f_X1_replayOne_td f_X1_replayOne_tg f_X1_replayOne_tl f_X1_replayOne_tn at this
  rw [zc_nat (n := L) (by omega), upd_at, upd_at, upd_at, upd_at] at this
  simp only [if_neg (show ¬ (2 : Int32) = 0 by decide), if_neg (show ¬ (2 : Int32) = 1 by decide), if_true] at this
  exact this
theorem inv_issue (h : Inv n th tr tm tb td lk lp lg lm ls fa bY bg lo nb vo ho ro we wi ba sg) (hn : n < 512) {p : Int32} (hp : vp_in p 12) :
    Inv (n + 1) th tr tm tb td (upd lk ls.toNatClampNeg 3) (upd lp ls.toNatClampNeg p) (upd lg ls.toNatClampNeg (-1)) (upd lm ls.toNatClampNeg 0) (ls + 1) fa bY (upd bg p.toNatClampNeg nb) (upd lo p.toNatClampNeg 0) (nb + 1) vo ho ro we wi ba sg := by
  obtain ⟨h1, h2, h3, h4, h5, ⟨B, rfl, hB2⟩, h7, ⟨L, rfl, hL2, hL3, hL4⟩, h9⟩ := h
  rw [zc_nat (n := L) (by omega), nI_1, nI_1]
  obtain ⟨a1, a2⟩ := rp_more (by omega) hL3 hL4 3 p (-1) 0 ⟨fun z => by rw [upd_at] at z; exact absurd z (by decide), fun z => by rw [upd_at] at z; exact absurd z (by decide), fun _ _ => by rw [upd_at]; exact hp⟩
  refine ⟨h1, h2, h3, h4, bl_upd h5 _ _ (Or.inl rfl), ⟨B + 1, rfl, by omega⟩, fun j hj => ?_, ⟨L + 1, rfl, by omega, a1, fun S hS => ?_⟩, h9⟩
  · by_cases c : j = p.toNatClampNeg
    · subst c; rw [upd_at]; exact ⟨B, rfl, by omega⟩
    · rw [upd_ne _ _ c]
      obtain ⟨b, e, hb⟩ := h7 j hj; exact ⟨b, e, by omega⟩
  · have := a2 S hS
    unfold stepT f_X1_replayOne_th f_X1_replayOne_tm f_X1_replayOne_tb f_X1_replayOne_td f_X1_replayOne_tg f_X1_replayOne_tl f_X1_replayOne_tn at this
    rw [zc_nat (n := L) (by omega), upd_at, upd_at, upd_at, upd_at] at this
    simp only [if_neg (show ¬ (3 : Int32) = 0 by decide), if_neg (show ¬ (3 : Int32) = 1 by decide), if_neg (show ¬ (3 : Int32) = 2 by decide)] at this
    unfold f_X2_renewBadge_tn at this
    rw [nI_1] at this
    exact this
/-! the guards of both sides -/
theorem ge_gt {a b x : Int32} (e : b.toInt + 1 = a.toInt) : a ≤ x ↔ b < x := by
  rw [Int32.le_iff_toInt_le, Int32.lt_iff_toInt_lt]
  omega
theorem per_cs (x : Int32) : (f_X3_isPerson_r x = 0 ∧ f_X4_isPerson_r x = 0) ∨ (f_X3_isPerson_r x = 1 ∧ f_X4_isPerson_r x = 1) := by
  unfold f_X3_isPerson_r f_X4_isPerson_r f_X4_in_r
  by_cases c : x < 0
  · rw [if_pos c, if_pos c]; exact Or.inl ⟨rfl, rfl⟩
  · rw [if_neg c, if_neg c]
    by_cases d : 12 ≤ x
    · rw [if_pos d, if_pos ((ge_gt (a := 12) (b := 11) (by decide)).mp d)]
      exact Or.inl ⟨rfl, rfl⟩
    · rw [if_neg d, if_neg (fun q => d ((ge_gt (a := 12) (b := 11) (by decide)).mpr q))]
      exact Or.inr ⟨rfl, rfl⟩
theorem gst_cs (x : Int32) : (f_X3_isGuest_r x = 0 ∧ f_X4_isGuest_r x = 0) ∨ (f_X3_isGuest_r x = 1 ∧ f_X4_isGuest_r x = 1 ∧ ¬ x < 4) := by
  unfold f_X3_isGuest_r f_X4_isGuest_r f_X4_in_r
  by_cases c : x < 4
  · rw [if_pos c, if_pos c]; exact Or.inl ⟨rfl, rfl⟩
  · rw [if_neg c, if_neg c]
    by_cases d : 12 ≤ x
    · rw [if_pos d, if_pos ((ge_gt (a := 12) (b := 11) (by decide)).mp d)]
      exact Or.inl ⟨rfl, rfl⟩
    · rw [if_neg d, if_neg (fun q => d ((ge_gt (a := 12) (b := 11) (by decide)).mpr q))]
      exact Or.inr ⟨rfl, rfl, c⟩
theorem key_cs (x : Int32) : (f_X3_isKey_r x = 0 ∧ f_X4_isKey_r x = 0) ∨ (f_X3_isKey_r x = 1 ∧ f_X4_isKey_r x = 1) := by
  unfold f_X3_isKey_r f_X4_isKey_r f_X4_in_r
  by_cases c : x < 0
  · rw [if_pos c, if_pos c]; exact Or.inl ⟨rfl, rfl⟩
  · rw [if_neg c, if_neg c]
    by_cases d : 4 ≤ x
    · rw [if_pos d, if_pos ((ge_gt (a := 4) (b := 3) (by decide)).mp d)]
      exact Or.inl ⟨rfl, rfl⟩
    · rw [if_neg d, if_neg (fun q => d ((ge_gt (a := 4) (b := 3) (by decide)).mpr q))]
      exact Or.inr ⟨rfl, rfl⟩
theorem in_lo {x a b : Int32} (h : x < a) : f_X4_in_r x a b = 0 := by unfold f_X4_in_r; rw [if_pos h]
theorem in_hi {x a b : Int32} (h : b < x) : f_X4_in_r x a b = 0 := by
  unfold f_X4_in_r
  by_cases c : x < a
  · rw [if_pos c]
  · rw [if_neg c, if_pos h]
theorem in_ok {x a b : Int32} (h : ¬ x < a) (h2 : ¬ b < x) : f_X4_in_r x a b = 1 := by unfold f_X4_in_r; rw [if_neg h, if_neg h2]
theorem fa_3 {x : Int32} (h : x = 0 ∨ x = 1 ∨ x = 2) : (x + 1 < 3 ∧ ¬ x + 1 = 3 ∧ (x + 1 = 0 ∨ x + 1 = 1 ∨ x + 1 = 2)) ∨ (¬ x + 1 < 3 ∧ x + 1 = 3) := by
  rcases h with rfl | rfl | rfl
  · exact Or.inl (by decide)
  · exact Or.inl (by decide)
  · exact Or.inr (by decide)
end INV
