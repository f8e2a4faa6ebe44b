/-! ### the ties, changed; and the log, replayed -/
theorem upd_at (f : Nat → Int32) (i : Nat) (v : Int32) : upd f i v i = v := if_pos rfl
theorem upd_ne (f : Nat → Int32) {i j : Nat} (v : Int32) (h : ¬ j = i) : upd f i v j = f j := if_neg h
abbrev mkC (th tm tb tg : Nat → Int32) (p q : Int32) (j : Nat) : Prop := th j = p ∧ tb j = tg p.toNatClampNeg ∧ ¬ tm j < q
theorem mark_is (th tm tb tg : Nat → Int32) (p q : Int32) (j : Nat) : ∀ (n k : Nat) (v : Nat → Int32), n + k = 13 → k ≤ 12 → FX2_markLost_9_vtd n (nI k) v th tm tb tg p q j = if (k ≤ j ∧ j < 12) ∧ mkC th tm tb tg p q j then 1 else v j
  | 0, k, v, h, h2 => by omega
  | n + 1, k, v, h, h2 => by
    unfold FX2_markLost_9_vtd
    by_cases e : k = 12
    · subst e
      rw [if_pos zc_12e, if_neg (fun z : (12 ≤ j ∧ j < 12) ∧ mkC th tm tb tg p q j => by omega)]
    · rw [if_neg (zc_12 (by omega)), nI_1, zc_nat (n := k) (by omega)]
      have ih := fun v => mark_is th tm tb tg p q j n (k + 1) v (by omega) (by omega)
      have skip : ∀ v : Nat → Int32, ¬ mkC th tm tb tg p q k → (if (k + 1 ≤ j ∧ j < 12) ∧ mkC th tm tb tg p q j then (1 : Int32) else v j) = if (k ≤ j ∧ j < 12) ∧ mkC th tm tb tg p q j then 1 else v j := fun v c => by
        by_cases d : (k ≤ j ∧ j < 12) ∧ mkC th tm tb tg p q j
        · rw [if_pos d]
          refine if_pos ⟨⟨?_, d.1.2⟩, d.2⟩
          rcases Nat.lt_or_ge k j with z | z
          · exact z
          · exact absurd ((show k = j by omega) ▸ d.2) c
        · rw [if_neg d]
          exact if_neg (fun z => d ⟨⟨by omega, z.1.2⟩, z.2⟩)
      by_cases c1 : th k = p
      · rw [if_pos c1]
        by_cases c2 : tb k = tg p.toNatClampNeg
        · rw [if_pos c2]
          by_cases c3 : tm k < q
          · rw [if_pos c3, ih, skip v (fun z => z.2.2 c3)]
          · rw [if_neg c3, ih]
            have ck : mkC th tm tb tg p q k := ⟨c1, c2, c3⟩
            by_cases d : (k ≤ j ∧ j < 12) ∧ mkC th tm tb tg p q j
            · rw [if_pos d]
              rcases Nat.lt_or_ge k j with z | z
              · exact if_pos ⟨⟨z, d.1.2⟩, d.2⟩
              · have : j = k := by omega
                subst this
                rw [upd_at]
                split <;> rfl
            · rw [if_neg d, if_neg (fun z => d ⟨⟨by omega, z.1.2⟩, z.2⟩)]
              refine upd_ne _ _ (fun z => d ?_)
              subst z
              exact ⟨⟨Nat.le_refl _, by omega⟩, ck⟩
        · rw [if_neg c2, ih, skip v (fun z => c2 z.2.1)]
      · rw [if_neg c1, ih, skip v (fun z => c1 z.1)]
theorem mark_at (th tm tb td tg : Nat → Int32) (p q : Int32) (j : Nat) : f_X2_markLost_td th tm tb td tg p q j = if (4 ≤ j ∧ j < 12) ∧ mkC th tm tb tg p q j then 1 else td j := mark_is th tm tb tg p q j 9 4 td rfl (by decide)
theorem lose_is (bg ho we wi : Nat → Int32) (N : Nat) (hN : N ≤ 100) (p q : Int32) (v : Nat) : ∀ (n k : Nat) (ba : Nat → Int32), n + k = N + 1 → k ≤ N → FX4_lose_32_vba n (nI k) ba bg (nI N) ho we wi p q v = if k ≤ v ∧ v < N then (if ba v = 0 then (if ho v = p ∧ wi v = bg p.toNatClampNeg ∧ ¬ we v < q then 1 else 0) else 1) else ba v
  | 0, k, ba, h, h2 => by omega
  | n + 1, k, ba, h, h2 => by
    unfold FX4_lose_32_vba
    by_cases e : N ≤ k
    · rw [if_pos (nI_le (a := N) (b := k) e (by omega)), if_neg (fun z => by omega)]
    · rw [if_neg (nI_ge (a := k) (b := N) (by omega) (by omega)), nI_1, zc_nat (n := k) (by omega)]
      have ih := fun ba => lose_is bg ho we wi N hN p q v n (k + 1) ba (by omega) (by omega)
      have gen : ∀ w : Int32, w = (if ba k = 0 then (if ho k = p ∧ wi k = bg p.toNatClampNeg ∧ ¬ we k < q then 1 else 0) else 1) → FX4_lose_32_vba n (nI (k + 1)) (upd ba k w) bg (nI N) ho we wi p q v = if k ≤ v ∧ v < N then (if ba v = 0 then (if ho v = p ∧ wi v = bg p.toNatClampNeg ∧ ¬ we v < q then 1 else 0) else 1) else ba v := fun w hw => by
        rw [ih]
        by_cases c : v = k
        · subst c
          rw [if_neg (fun z => by omega), upd_at, if_pos ⟨Nat.le_refl _, by omega⟩, hw]
        · rw [upd_ne _ _ c]
          by_cases d : k ≤ v ∧ v < N
          · rw [if_pos d, if_pos ⟨by omega, d.2⟩]
          · rw [if_neg d, if_neg (fun z => d ⟨by omega, z.2⟩)]
      by_cases c0 : ba k = 0
      · rw [if_pos c0]
        by_cases c1 : ho k = p
        · rw [if_pos c1]
          by_cases c2 : wi k = bg p.toNatClampNeg
          · rw [if_pos c2]
            by_cases c3 : we k < q
            · rw [if_pos c3]
              exact gen 0 (by rw [if_pos c0, if_neg (fun z => z.2.2 c3)])
            · rw [if_neg c3]
              exact gen 1 (by rw [if_pos c0, if_pos ⟨c1, c2, c3⟩])
          · rw [if_neg c2]
            exact gen 0 (by rw [if_pos c0, if_neg (fun z => c2 z.2.1)])
        · rw [if_neg c1]
          exact gen 0 (by rw [if_pos c0, if_neg (fun z => c1 z.1)])
      · rw [if_neg c0]
        exact gen 1 (by rw [if_neg c0])
theorem lose_at (bg ho we wi ba : Nat → Int32) {N : Nat} (hN : N ≤ 100) (p q : Int32) (v : Nat) : FX4_lose_32_vba ((nI N).toNatClampNeg + 1) 0 ba bg (nI N) ho we wi p q v = if v < N then (if ba v = 0 then (if ho v = p ∧ wi v = bg p.toNatClampNeg ∧ ¬ we v < q then 1 else 0) else 1) else ba v := by
  rw [zc_nat (by omega)]
  have := lose_is bg ho we wi N hN p q v (N + 1) 0 ba rfl (Nat.zero_le _)
  rw [nI_0] at this
  rw [this]
  by_cases c : v < N
  · rw [if_pos c, if_pos ⟨Nat.zero_le _, c⟩]
  · rw [if_neg c, if_neg (fun z => c z.2)]
section TIES2
variable {N : Nat} {bY ho ro we wi ba th tr tm tb td : Nat → Int32}
theorem tie_lose (hR : tieR N bY ho ro we wi ba th tr tm tb td) (hN : N ≤ 100) (hb : ∀ v : Nat, v < 100 → ba v = 0 ∨ ba v = 1) (bg : Nat → Int32) {p : Int32} (hp : vp_in p 12) (q : Int32) : tieR N bY ho ro we wi (FX4_lose_32_vba ((nI N).toNatClampNeg + 1) 0 ba bg (nI N) ho we wi p q) th tr tm tb (f_X2_markLost_td th tm tb td bg p q) := fun j hj => by
  rcases hR j hj with ⟨e1, e2, e3⟩ | ⟨h4, v, hv, e1, e2, e3, e4, e5, e6, e7⟩
  · refine Or.inl ⟨e1, e2, ?_⟩
    rw [mark_at, if_neg (fun z : (4 ≤ j ∧ j < 12) ∧ mkC th tm tb bg p q j => ?_), e3]
    have := z.2.1
    rw [e2] at this
    subst this
    exact absurd hp (by unfold vp_in; decide)
  · refine Or.inr ⟨h4, v, hv, e1, e2, e3, e4, e5, e6, ?_⟩
    rw [mark_at, lose_at bg ho we wi ba hN, if_pos hv]
    have cd : ((4 ≤ j ∧ j < 12) ∧ mkC th tm tb bg p q j) ↔ (ho v = p ∧ wi v = bg p.toNatClampNeg ∧ ¬ we v < q) := by
      unfold mkC
      rw [e2, e5, e6]
      exact ⟨fun z => z.2, fun z => ⟨⟨h4, hj⟩, z⟩⟩
    rcases hb v (by omega) with b | b
    · rw [if_pos b, e7, b]
      by_cases c : ho v = p ∧ wi v = bg p.toNatClampNeg ∧ ¬ we v < q
      · rw [if_pos c, if_pos (cd.mpr c)]
      · rw [if_neg c, if_neg (fun z => c (cd.mp z))]
    · rw [if_neg (show ¬ ba v = 0 by rw [b]; decide), e7, b]
      split <;> rfl
theorem ba_lose (hN : N ≤ 100) (hb : ∀ v : Nat, v < 100 → ba v = 0 ∨ ba v = 1) (bg : Nat → Int32) (p q : Int32) : ∀ v : Nat, v < 100 → FX4_lose_32_vba ((nI N).toNatClampNeg + 1) 0 ba bg (nI N) ho we wi p q v = 0 ∨ FX4_lose_32_vba ((nI N).toNatClampNeg + 1) 0 ba bg (nI N) ho we wi p q v = 1 := fun v hv => by
  rw [lose_at bg ho we wi ba hN]
  split
  · split
    · split
      · exact Or.inr rfl
      · exact Or.inl rfl
    · exact Or.inr rfl
  · exact hb v hv
theorem ba_lose0 (hN : N ≤ 100) (hb : ∀ v : Nat, N ≤ v → v < 100 → ba v = 0) (bg : Nat → Int32) (p q : Int32) : ∀ v : Nat, N ≤ v → v < 100 → FX4_lose_32_vba ((nI N).toNatClampNeg + 1) 0 ba bg (nI N) ho we wi p q v = 0 := fun v h1 hv => by
  rw [lose_at bg ho we wi ba hN, if_neg (by omega)]
  exact hb v h1 hv
theorem tie_vouch (hR : tieR N bY ho ro we wi ba th tr tm tb td) (hN : N < 100) (hb : ∀ v : Nat, N ≤ v → v < 100 → ba v = 0) {p g : Int32} (hp : vp_in p 12) (hg : vp_in g 12) (hg4 : ¬ g < 4) (r w b : Int32) : tieR (N + 1) (upd bY g.toNatClampNeg (nI N)) (upd ho N p) (upd ro N r) (upd we N w) (upd wi N b) ba (upd th g.toNatClampNeg p) (upd tr g.toNatClampNeg r) (upd tm g.toNatClampNeg w) (upd tb g.toNatClampNeg b) (upd td g.toNatClampNeg 0) := fun j hj => by
  by_cases c : j = g.toNatClampNeg
  · subst c
    refine Or.inr ⟨?_, N, by omega, upd_at _ _ _, by rw [upd_at, upd_at], by rw [upd_at]; exact hp, by rw [upd_at, upd_at], by rw [upd_at, upd_at], by rw [upd_at, upd_at], by rw [upd_at, hb N (Nat.le_refl _) hN]⟩
    rw [vp_of_nI hg (by decide)] at hg4
    have := mt (nI_ltI (a := g.toNatClampNeg) (b := 4) (by omega) (by decide)).mpr hg4
    omega
  · rw [upd_ne _ _ c, upd_ne _ _ c, upd_ne _ _ c, upd_ne _ _ c, upd_ne _ _ c, upd_ne _ _ c]
    rcases hR j hj with e | ⟨h4, v, hv, e1, e2, e3, e4, e5, e6, e7⟩
    · exact Or.inl e
    · have hn : ¬ v = N := by omega
      refine Or.inr ⟨h4, v, by omega, e1, ?_⟩
      rw [upd_ne _ _ hn, upd_ne _ _ hn, upd_ne _ _ hn, upd_ne _ _ hn]
      exact ⟨e2, e3, e4, e5, e6, e7⟩
theorem tie_end (hR : tieR N bY ho ro we wi ba th tr tm tb td) (g : Nat) : tieR N (upd bY g (-1)) ho ro we wi ba (upd th g (-1)) tr tm tb (upd td g 0) := fun j hj => by
  by_cases c : j = g
  · subst c
    exact Or.inl ⟨upd_at _ _ _, upd_at _ _ _, upd_at _ _ _⟩
  · rw [upd_ne _ _ c, upd_ne _ _ c, upd_ne _ _ c]
    exact hR j hj
theorem count_is (hR : tieR N bY ho ro we wi ba th tr tm tb td) (hN : N ≤ 100) {lo : Nat → Int32} (hlo : ∀ j : Nat, j < 12 → lo j = 0 ∨ lo j = 1) (bg : Nat → Int32) (mlo mba : Nat → Int32) (p q vo : Int32) (e1 : upd mlo p.toNatClampNeg 1 = lo) (e2 : FX4_lose_32_vba (vo.toNatClampNeg + 1) 0 mba bg vo ho we wi p q = ba) : ∀ (n k : Nat) (c : Int32), n + k = 13 → FX4_lose_106_y3 n c (nI k) bY bg mlo vo ho we wi mba p q = FX2_countTainted_4_x1 n c (nI k) th td lo
  | 0, _, _, _ => rfl
  | n + 1, k, c, h => by
    unfold FX4_lose_106_y3 FX2_countTainted_4_x1
    by_cases h12 : (12 : Int32) ≤ nI k
    · rw [if_pos h12, if_pos h12]
    · have hv : vp_in (nI k) 12 := vp_in_of2 (M := 12) rfl (by decide) (nI_pos (by omega)) h12
      rw [if_neg h12, if_neg h12, nI_1, Int32.add_zero, e1, e2, taint_eq hR hN hlo hv]
      split
      · exact count_is hR hN hlo bg mlo mba p q vo e1 e2 n (k + 1) c (by omega)
      · exact count_is hR hN hlo bg mlo mba p q vo e1 e2 n (k + 1) (c + 1) (by omega)
end TIES2
/-! ### the log -/
abbrev T7 : Type := (Nat → Int32) × (Nat → Int32) × (Nat → Int32) × (Nat → Int32) × (Nat → Int32) × (Nat → Int32) × Int32
def stepT (lk lp lg lm : Nat → Int32) (k : Nat) (S : T7) : T7 := (f_X1_replayOne_th lk lp lg S.1 (nI k), f_X1_replayOne_tm lk lg lm S.2.1 (nI k), f_X1_replayOne_tb lk lp lg S.2.2.1 S.2.2.2.2.1 (nI k), f_X1_replayOne_td lk lp lg lm S.1 S.2.1 S.2.2.1 S.2.2.2.1 S.2.2.2.2.1 (nI k), f_X1_replayOne_tg lk lp S.2.2.2.2.1 S.2.2.2.2.2.2 (nI k), f_X1_replayOne_tl lk lp S.2.2.2.2.2.1 (nI k), f_X1_replayOne_tn lk S.2.2.2.2.2.2 (nI k))
def rpF (lk lp lg lm : Nat → Int32) : Nat → Nat → T7 → T7
  | 0, _, S => S
  | n + 1, k, S => rpF lk lp lg lm n (k + 1) (stepT lk lp lg lm k S)
theorem rpF_snoc (lk lp lg lm : Nat → Int32) : ∀ (n k : Nat) (S : T7), rpF lk lp lg lm (n + 1) k S = stepT lk lp lg lm (k + n) (rpF lk lp lg lm n k S)
  | 0, k, S => rfl
  | n + 1, k, S => by
    have := rpF_snoc lk lp lg lm n (k + 1) (stepT lk lp lg lm k S)
    rw [show k + 1 + n = k + (n + 1) by omega] at this
    exact this
theorem rp_th (lk lp lg lm : Nat → Int32) (L : Nat) (hL : L ≤ 512) : ∀ (n k : Nat) (S : T7), k + n = L → FX1_replayInto_6_vth (n + 1) (nI k) S.1 S.2.1 S.2.2.1 S.2.2.2.1 S.2.2.2.2.1 S.2.2.2.2.2.1 S.2.2.2.2.2.2 lk lp lg lm (nI L) = (rpF lk lp lg lm n k S).1
  | 0, k, S, h => by
    unfold FX1_replayInto_6_vth
    rw [if_pos (nI_le (a := L) (b := k) (by omega) (by omega))]
    rfl
  | n + 1, k, S, h => by
    unfold FX1_replayInto_6_vth
    rw [if_neg (nI_ge (a := k) (b := L) (by omega) (by omega)), nI_1]
    exact rp_th lk lp lg lm L hL n (k + 1) (stepT lk lp lg lm k S) (by omega)
theorem rp_td (lk lp lg lm : Nat → Int32) (L : Nat) (hL : L ≤ 512) : ∀ (n k : Nat) (S : T7), k + n = L → FX1_replayInto_6_vtd (n + 1) (nI k) S.1 S.2.1 S.2.2.1 S.2.2.2.1 S.2.2.2.2.1 S.2.2.2.2.2.1 S.2.2.2.2.2.2 lk lp lg lm (nI L) = (rpF lk lp lg lm n k S).2.2.2.1
  | 0, k, S, h => by
    unfold FX1_replayInto_6_vtd
    rw [if_pos (nI_le (a := L) (b := k) (by omega) (by omega))]
    rfl
  | n + 1, k, S, h => by
    unfold FX1_replayInto_6_vtd
    rw [if_neg (nI_ge (a := k) (b := L) (by omega) (by omega)), nI_1]
    exact rp_td lk lp lg lm L hL n (k + 1) (stepT lk lp lg lm k S) (by omega)
theorem rp_tl (lk lp lg lm : Nat → Int32) (L : Nat) (hL : L ≤ 512) : ∀ (n k : Nat) (S : T7), k + n = L → FX1_replayInto_6_vtl (n + 1) (nI k) S.1 S.2.1 S.2.2.1 S.2.2.2.1 S.2.2.2.2.1 S.2.2.2.2.2.1 S.2.2.2.2.2.2 lk lp lg lm (nI L) = (rpF lk lp lg lm n k S).2.2.2.2.2.1
  | 0, k, S, h => by
    unfold FX1_replayInto_6_vtl
    rw [if_pos (nI_le (a := L) (b := k) (by omega) (by omega))]
    rfl
  | n + 1, k, S, h => by
    unfold FX1_replayInto_6_vtl
    rw [if_neg (nI_ge (a := k) (b := L) (by omega) (by omega)), nI_1]
    exact rp_tl lk lp lg lm L hL n (k + 1) (stepT lk lp lg lm k S) (by omega)
/-- the same to whoever looks -/
def eqvT (S T : T7) : Prop := (∀ j : Nat, j < 12 → S.1 j = T.1 j ∧ (¬ S.1 j = -1 → S.2.1 j = T.2.1 j ∧ S.2.2.1 j = T.2.2.1 j) ∧ S.2.2.2.1 j = T.2.2.2.1 j ∧ S.2.2.2.2.1 j = T.2.2.2.2.1 j ∧ S.2.2.2.2.2.1 j = T.2.2.2.2.2.1 j) ∧ S.2.2.2.2.2.2 = T.2.2.2.2.2.2
def freshT (S : T7) : Prop := (∀ j : Nat, j < 12 → S.1 j = -1 ∧ S.2.2.2.1 j = 0 ∧ S.2.2.2.2.1 j = nI j ∧ S.2.2.2.2.2.1 j = 0) ∧ S.2.2.2.2.2.2 = 12
theorem stepT_eqv {lk lp lg lm : Nat → Int32} {k : Nat} (hk : k < 512) (he : evOK lk lp lg k) {S T : T7} (h : eqvT S T) : eqvT (stepT lk lp lg lm k S) (stepT lk lp lg lm k T) := by
  obtain ⟨sh, sm, sb, sd, sg, sl, sn⟩ := S
  obtain ⟨th, tm, tb, td, tg, tl, tn⟩ := T
  obtain ⟨h, hn⟩ := h
  have hn : sn = tn := hn
  subst hn
  unfold stepT f_X1_replayOne_th f_X1_replayOne_tm f_X1_replayOne_tb f_X1_replayOne_td f_X1_replayOne_tg f_X1_replayOne_tl f_X1_replayOne_tn
  rw [zc_nat (n := k) (by omega)]
  by_cases c0 : lk k = 0
  · obtain ⟨hp, hg⟩ := he.1 c0
    simp only [if_pos c0]
    refine ⟨fun j hj => ?_, rfl⟩
    obtain ⟨a1, a2, a3, a4, a5⟩ := h j hj
    have b4 : sg (lp k).toNatClampNeg = tg (lp k).toNatClampNeg := (h _ (vp_lt hp)).2.2.2.1
    show f_X2_tie_th sh (lp k) (lg k) j = f_X2_tie_th th (lp k) (lg k) j ∧ (¬ f_X2_tie_th sh (lp k) (lg k) j = -1 → f_X2_tie_tm sm (lg k) (lm k) j = f_X2_tie_tm tm (lg k) (lm k) j ∧ f_X2_tie_tb sb sg (lp k) (lg k) j = f_X2_tie_tb tb tg (lp k) (lg k) j) ∧ f_X2_tie_td sd (lg k) j = f_X2_tie_td td (lg k) j ∧ sg j = tg j ∧ sl j = tl j
    unfold f_X2_tie_th f_X2_tie_tm f_X2_tie_tb f_X2_tie_td
    by_cases c : j = (lg k).toNatClampNeg
    · subst c
      exact ⟨by rw [upd_at, upd_at], fun _ => ⟨by rw [upd_at, upd_at], by rw [upd_at, upd_at]; exact b4⟩, by rw [upd_at, upd_at], a4, a5⟩
    · simp only [upd_ne _ _ c]
      exact ⟨a1, a2, a3, a4, a5⟩
  · simp only [if_neg c0]
    by_cases c1 : lk k = 1
    · simp only [if_pos c1]
      refine ⟨fun j hj => ?_, rfl⟩
      obtain ⟨a1, a2, a3, a4, a5⟩ := h j hj
      show f_X2_untie_th sh (lg k) j = f_X2_untie_th th (lg k) j ∧ (¬ f_X2_untie_th sh (lg k) j = -1 → sm j = tm j ∧ sb j = tb j) ∧ f_X2_untie_td sd (lg k) j = f_X2_untie_td td (lg k) j ∧ sg j = tg j ∧ sl j = tl j
      unfold f_X2_untie_th f_X2_untie_td
      by_cases c : j = (lg k).toNatClampNeg
      · subst c
        exact ⟨by rw [upd_at, upd_at], fun z => absurd (upd_at _ _ _) z, by rw [upd_at, upd_at], a4, a5⟩
      · simp only [upd_ne _ _ c]
        exact ⟨a1, a2, a3, a4, a5⟩
    · simp only [if_neg c1]
      have hp := he.2.2 c0 c1
      have b4 : sg (lp k).toNatClampNeg = tg (lp k).toNatClampNeg := (h _ (vp_lt hp)).2.2.2.1
      by_cases c2 : lk k = 2
      · simp only [if_pos c2]
        refine ⟨fun j hj => ?_, rfl⟩
        obtain ⟨a1, a2, a3, a4, a5⟩ := h j hj
        have a1 : sh j = th j := a1
        have a2 : ¬ sh j = -1 → sm j = tm j ∧ sb j = tb j := a2
        have a3 : sd j = td j := a3
        show sh j = th j ∧ (¬ sh j = -1 → sm j = tm j ∧ sb j = tb j) ∧ f_X2_markLost_td sh sm sb sd sg (lp k) (lm k) j = f_X2_markLost_td th tm tb td tg (lp k) (lm k) j ∧ sg j = tg j ∧ f_X2_markLost_tl sl (lp k) j = f_X2_markLost_tl tl (lp k) j
        refine ⟨a1, a2, ?_, a4, ?_⟩
        · rw [mark_at, mark_at, a3]
          have cd : ((4 ≤ j ∧ j < 12) ∧ mkC sh sm sb sg (lp k) (lm k) j) ↔ ((4 ≤ j ∧ j < 12) ∧ mkC th tm tb tg (lp k) (lm k) j) := by
            unfold mkC
            rw [← a1, ← b4]
            by_cases z : sh j = lp k
            · have zn : ¬ sh j = -1 := fun y => by
                rw [z] at y
                rw [y] at hp
                exact absurd hp (by unfold vp_in; decide)
              rw [(a2 zn).1, (a2 zn).2]
            · exact ⟨fun y => absurd y.2.1 z, fun y => absurd y.2.1 z⟩
          by_cases z : (4 ≤ j ∧ j < 12) ∧ mkC sh sm sb sg (lp k) (lm k) j
          · rw [if_pos z, if_pos (cd.mp z)]
          · rw [if_neg z, if_neg (fun y => z (cd.mpr y))]
        · unfold f_X2_markLost_tl
          by_cases c : j = (lp k).toNatClampNeg
          · subst c
            rw [upd_at, upd_at]
          · rw [upd_ne _ _ c, upd_ne _ _ c]
            exact a5
      · simp only [if_neg c2]
        refine ⟨fun j hj => ?_, rfl⟩
        obtain ⟨a1, a2, a3, a4, a5⟩ := h j hj
        show sh j = th j ∧ (¬ sh j = -1 → sm j = tm j ∧ sb j = tb j) ∧ sd j = td j ∧ f_X2_renewBadge_tg sg sn (lp k) j = f_X2_renewBadge_tg tg sn (lp k) j ∧ f_X2_renewBadge_tl sl (lp k) j = f_X2_renewBadge_tl tl (lp k) j
        unfold f_X2_renewBadge_tg f_X2_renewBadge_tl
        refine ⟨a1, a2, a3, ?_⟩
        by_cases c : j = (lp k).toNatClampNeg
        · subst c
          exact ⟨by rw [upd_at, upd_at], by rw [upd_at, upd_at]⟩
        · simp only [upd_ne _ _ c]
          exact ⟨a4, a5⟩
/-- only what lies in the log is read -/
theorem stepT_cong {lk lp lg lm lk' lp' lg' lm' : Nat → Int32} {k : Nat} (hk : k < 512) (h1 : lk k = lk' k) (h2 : lp k = lp' k) (h3 : lg k = lg' k) (h4 : lm k = lm' k) (S : T7) : stepT lk lp lg lm k S = stepT lk' lp' lg' lm' k S := by
  unfold stepT f_X1_replayOne_th f_X1_replayOne_tm f_X1_replayOne_tb f_X1_replayOne_td f_X1_replayOne_tg f_X1_replayOne_tl f_X1_replayOne_tn
  rw [zc_nat (n := k) (by omega), h1, h2, h3, h4]
theorem rpF_cong {lk lp lg lm lk' lp' lg' lm' : Nat → Int32} : ∀ (n k : Nat) (S : T7), k + n ≤ 512 → (∀ j : Nat, j < k + n → lk j = lk' j ∧ lp j = lp' j ∧ lg j = lg' j ∧ lm j = lm' j) → rpF lk lp lg lm n k S = rpF lk' lp' lg' lm' n k S
  | 0, _, _, _, _ => rfl
  | n + 1, k, S, h, hh => by
    unfold rpF
    obtain ⟨h1, h2, h3, h4⟩ := hh k (by omega)
    rw [stepT_cong (lk' := lk') (lp' := lp') (lg' := lg') (lm' := lm') (by omega) h1 h2 h3 h4]
    exact rpF_cong n (k + 1) _ (by omega) (fun j hj => hh j (by omega))
/-- one event more -/
theorem rp_more {lk lp lg lm : Nat → Int32} {L : Nat} (hL : L < 512) (ho : ∀ j : Nat, j < L → evOK lk lp lg j) {T : T7} (h : ∀ S : T7, freshT S → eqvT (rpF lk lp lg lm L 0 S) T) (vk vp vg vm : Int32) (he : evOK (upd lk L vk) (upd lp L vp) (upd lg L vg) L) :
    (∀ j : Nat, j < L + 1 → evOK (upd lk L vk) (upd lp L vp) (upd lg L vg) j) ∧ ∀ S : T7, freshT S → eqvT (rpF (upd lk L vk) (upd lp L vp) (upd lg L vg) (upd lm L vm) (L + 1) 0 S) (stepT (upd lk L vk) (upd lp L vp) (upd lg L vg) (upd lm L vm) L T) := by
  refine ⟨fun j hj => ?_, fun S hS => ?_⟩
  · by_cases c : j = L
    · rw [c]; exact he
    · have := ho j (by omega)
      unfold evOK at this ⊢
      rw [upd_ne _ _ c, upd_ne _ _ c, upd_ne _ _ c]
      exact this
  · rw [rpF_snoc, Nat.zero_add, ← rpF_cong (lk := lk) (lp := lp) (lg := lg) (lm := lm) L 0 S (by omega) (fun j hj => by
      have c : ¬ j = L := by omega
      rw [upd_ne _ _ c, upd_ne _ _ c, upd_ne _ _ c, upd_ne _ _ c]
      exact ⟨rfl, rfl, rfl, rfl⟩)]
    exact stepT_eqv hL he (h S hS)
