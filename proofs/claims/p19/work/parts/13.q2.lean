/-! ### what the law's questions are answered -/
def wg (G : va_G) (a : Nat → Nat) (f : Nat → Int32) : va_W := [cI G (a 0) 3 f]
def ww (G : va_G) (a : Nat → Nat) (f : Nat → Int32) : va_W := [cI G (a 0) 12 f]
theorem kin_ne {x : Int32} (h : vp_in x 4) : ¬ f_X3_isKey_r x = 0 := by
  obtain ⟨j, hj, rfl⟩ := vp_in_of h (by decide)
  unfold f_X3_isKey_r
  rw [if_neg (nI_pos (by omega)), if_neg (show ¬ (4 : Int32) ≤ nI j from nI_ge (a := j) (b := 4) hj (by decide))]
  decide
theorem asn {x : Int32} (h : x = 0 ∨ x = 1) : f_X3_asNumber_r x = x := by
  rcases h with rfl | rfl <;> rfl
theorem in_b (de : Nat → Int32) (p nw : Int32) : f_X0_isInSession_r de p nw = 0 ∨ f_X0_isInSession_r de p nw = 1 := by
  unfold f_X0_isInSession_r
  split
  · exact Or.inl rfl
  · exact Or.inr rfl
theorem tr_b (th : Nat → Int32) (p : Int32) : f_X2_isTrusted_r th p = 0 ∨ f_X2_isTrusted_r th p = 1 := by
  unfold f_X2_isTrusted_r
  split
  · exact Or.inl rfl
  · exact Or.inr rfl
theorem ta_b (th td tl : Nat → Int32) (p : Int32) : f_X2_isTainted_r th td tl p = 0 ∨ f_X2_isTainted_r th td tl p = 1 := by
  unfold f_X2_isTainted_r
  split
  · split
    · exact Or.inl rfl
    · exact Or.inr rfl
  · exact Or.inr rfl
def vE (de : Nat → Int32) (nw p : Int32) : Int32 := if de p.toNatClampNeg ≤ nw then -1 else de p.toNatClampNeg
section OF
variable {nw : Int32} {df de th tr td tg tl : Nat → Int32} {p : Int32}
theorem of_w {w v : Int32} (k0 : f_X3_of_k p w = 0) (r0 : f_X3_of_r nw df de th tr td tg tl p w = v) : f_L_of_r nw df de th tr td tg tl p w = v := by
  unfold f_L_of_r
  rw [if_pos k0, r0]
theorem of_0 (h : vp_in p 12) : f_L_of_r nw df de th tr td tg tl p 0 = (f_X0_isInSession_r de p nw) := by
  refine of_w ?_ ?_
  · unfold f_X3_of_k
    rw [if_neg (ps_ne h), if_pos rfl]
  · unfold f_X3_of_r
    rw [if_neg (ps_ne h), if_pos rfl]
    exact asn (in_b de p nw)
theorem of_1 (h : vp_in p 12) : f_L_of_r nw df de th tr td tg tl p 1 = (f_X2_isTrusted_r th p) := by
  refine of_w ?_ ?_
  · unfold f_X3_of_k
    rw [if_neg (ps_ne h), if_neg (show ¬ (1 : Int32) = 0 by decide), if_pos rfl]
  · unfold f_X3_of_r
    rw [if_neg (ps_ne h), if_neg (show ¬ (1 : Int32) = 0 by decide), if_pos rfl]
    exact asn (tr_b th p)
theorem of_2 (h : vp_in p 12) : f_L_of_r nw df de th tr td tg tl p 2 = (f_X2_isTainted_r th td tl p) := by
  refine of_w ?_ ?_
  · unfold f_X3_of_k
    rw [if_neg (ps_ne h), if_neg (show ¬ (2 : Int32) = 0 by decide), if_neg (show ¬ (2 : Int32) = 1 by decide), if_pos rfl]
  · unfold f_X3_of_r
    rw [if_neg (ps_ne h), if_neg (show ¬ (2 : Int32) = 0 by decide), if_neg (show ¬ (2 : Int32) = 1 by decide), if_pos rfl]
    exact asn (ta_b th td tl p)
theorem of_3 (h : vp_in p 12) : f_L_of_r nw df de th tr td tg tl p 3 = (f_X2_roomsOf_r th tr p) := by
  refine of_w ?_ ?_
  · unfold f_X3_of_k
    rw [if_neg (ps_ne h), if_neg (show ¬ (3 : Int32) = 0 by decide), if_neg (show ¬ (3 : Int32) = 1 by decide), if_neg (show ¬ (3 : Int32) = 2 by decide), if_pos rfl]
  · unfold f_X3_of_r
    rw [if_neg (ps_ne h), if_neg (show ¬ (3 : Int32) = 0 by decide), if_neg (show ¬ (3 : Int32) = 1 by decide), if_neg (show ¬ (3 : Int32) = 2 by decide), if_pos rfl]
theorem of_4 (h : vp_in p 12) : f_L_of_r nw df de th tr td tg tl p 4 = (th (p).toNatClampNeg) := by
  refine of_w ?_ ?_
  · unfold f_X3_of_k
    rw [if_neg (ps_ne h), if_neg (show ¬ (4 : Int32) = 0 by decide), if_neg (show ¬ (4 : Int32) = 1 by decide), if_neg (show ¬ (4 : Int32) = 2 by decide), if_neg (show ¬ (4 : Int32) = 3 by decide), if_pos rfl]
  · unfold f_X3_of_r
    rw [if_neg (ps_ne h), if_neg (show ¬ (4 : Int32) = 0 by decide), if_neg (show ¬ (4 : Int32) = 1 by decide), if_neg (show ¬ (4 : Int32) = 2 by decide), if_neg (show ¬ (4 : Int32) = 3 by decide), if_pos rfl]
    rfl
theorem of_5 (h : vp_in p 12) : f_L_of_r nw df de th tr td tg tl p 5 = (df (p).toNatClampNeg) := by
  refine of_w ?_ ?_
  · unfold f_X3_of_k
    rw [if_neg (ps_ne h), if_neg (show ¬ (5 : Int32) = 0 by decide), if_neg (show ¬ (5 : Int32) = 1 by decide), if_neg (show ¬ (5 : Int32) = 2 by decide), if_neg (show ¬ (5 : Int32) = 3 by decide), if_neg (show ¬ (5 : Int32) = 4 by decide), if_pos rfl]
  · unfold f_X3_of_r
    rw [if_neg (ps_ne h), if_neg (show ¬ (5 : Int32) = 0 by decide), if_neg (show ¬ (5 : Int32) = 1 by decide), if_neg (show ¬ (5 : Int32) = 2 by decide), if_neg (show ¬ (5 : Int32) = 3 by decide), if_neg (show ¬ (5 : Int32) = 4 by decide), if_pos rfl]
    rfl
theorem of_6 (h : vp_in p 12) : f_L_of_r nw df de th tr td tg tl p 6 = (vE de nw p) := by
  refine of_w ?_ ?_
  · unfold f_X3_of_k
    rw [if_neg (ps_ne h), if_neg (show ¬ (6 : Int32) = 0 by decide), if_neg (show ¬ (6 : Int32) = 1 by decide), if_neg (show ¬ (6 : Int32) = 2 by decide), if_neg (show ¬ (6 : Int32) = 3 by decide), if_neg (show ¬ (6 : Int32) = 4 by decide), if_neg (show ¬ (6 : Int32) = 5 by decide), if_pos rfl]
  · unfold f_X3_of_r
    rw [if_neg (ps_ne h), if_neg (show ¬ (6 : Int32) = 0 by decide), if_neg (show ¬ (6 : Int32) = 1 by decide), if_neg (show ¬ (6 : Int32) = 2 by decide), if_neg (show ¬ (6 : Int32) = 3 by decide), if_neg (show ¬ (6 : Int32) = 4 by decide), if_neg (show ¬ (6 : Int32) = 5 by decide), if_pos rfl]
    unfold f_X0_isInSession_r f_X0_sessionEndOf_r vE
    by_cases c : de p.toNatClampNeg ≤ nw
    · rw [if_pos c, if_pos rfl, if_pos c]
    · rw [if_neg c, if_neg (show ¬ (1 : Int32) = 0 by decide), if_neg c]
theorem of_7 (h : vp_in p 12) : f_L_of_r nw df de th tr td tg tl p 7 = (tg (p).toNatClampNeg) := by
  refine of_w ?_ ?_
  · unfold f_X3_of_k
    rw [if_neg (ps_ne h), if_neg (show ¬ (7 : Int32) = 0 by decide), if_neg (show ¬ (7 : Int32) = 1 by decide), if_neg (show ¬ (7 : Int32) = 2 by decide), if_neg (show ¬ (7 : Int32) = 3 by decide), if_neg (show ¬ (7 : Int32) = 4 by decide), if_neg (show ¬ (7 : Int32) = 5 by decide), if_neg (show ¬ (7 : Int32) = 6 by decide), if_pos rfl]
  · unfold f_X3_of_r
    rw [if_neg (ps_ne h), if_neg (show ¬ (7 : Int32) = 0 by decide), if_neg (show ¬ (7 : Int32) = 1 by decide), if_neg (show ¬ (7 : Int32) = 2 by decide), if_neg (show ¬ (7 : Int32) = 3 by decide), if_neg (show ¬ (7 : Int32) = 4 by decide), if_neg (show ¬ (7 : Int32) = 5 by decide), if_neg (show ¬ (7 : Int32) = 6 by decide), if_pos rfl]
    rfl
theorem of_8 (h : vp_in p 12) : f_L_of_r nw df de th tr td tg tl p 8 = (-1000002) := by
  have k : f_X3_of_k p 8 = 2 := by
    unfold f_X3_of_k
    rw [if_neg (ps_ne h), if_neg (show ¬ (8 : Int32) = 0 by decide), if_neg (show ¬ (8 : Int32) = 1 by decide), if_neg (show ¬ (8 : Int32) = 2 by decide), if_neg (show ¬ (8 : Int32) = 3 by decide), if_neg (show ¬ (8 : Int32) = 4 by decide), if_neg (show ¬ (8 : Int32) = 5 by decide), if_neg (show ¬ (8 : Int32) = 6 by decide), if_neg (show ¬ (8 : Int32) = 7 by decide)]
  unfold f_L_of_r
  rw [k, if_neg (show ¬ (2 : Int32) = 0 by decide), if_neg (show ¬ (2 : Int32) = 1 by decide)]
theorem chain_q (h : vp_in p 12) : f_L_chain_r th p = f_X2_stepsToStaff_r th p := by
  have k : f_X3_chain_k p = 0 := by unfold f_X3_chain_k; rw [if_neg (ps_ne h)]
  unfold f_L_chain_r
  rw [if_pos k]
  unfold f_X3_chain_r
  rw [if_neg (ps_ne h)]
theorem door_q {j : Nat} (h : vp_in p 12) (hj : j < 6) : f_L_door_r th tr td tl p (nI j) = if f_X2_isTainted_r th td tl p = 0 then f_X3_holds_r (f_X2_roomsOf_r th tr p) (nI j) else 0 := by
  have c1 : ¬ nI j < 0 := nI_pos (by omega)
  have c2 : nI j < 6 := (nI_ltI (a := j) (b := 6) (by omega) (by decide)).mpr hj
  have k : f_X3_door_k p (nI j) = 0 := by unfold f_X3_door_k; rw [if_neg (ps_ne h), if_neg c1, if_pos c2]
  have r : f_X3_door_r th tr td tl p (nI j) = if f_X2_isTainted_r th td tl p = 0 then f_X3_holds_r (f_X2_roomsOf_r th tr p) (nI j) else 0 := by
    unfold f_X3_door_r
    rw [if_neg (ps_ne h), if_neg c1, if_pos c2]
    unfold f_X3_holds_r
    split
    · rw [if_neg (show ¬ (1 : Int32) = 0 by decide)]
    · rw [if_pos rfl]
      split <;> rfl
  unfold f_L_door_r
  rw [if_pos k, r]
  unfold f_X3_holds_r
  split
  · split
    · rw [if_neg (show ¬ (1 : Int32) = 0 by decide)]
    · rw [if_pos rfl]
  · rw [if_pos rfl]
theorem ta_q {uh um ub ud ug ul lk lp lg lm : Nat → Int32} {ls : Int32} (h : vp_in p 12) (an : f_X2_isTainted_r (f_X1_replayInto_th lk lp lg lm ls uh um ub ud ug ul) (f_X1_replayInto_td lk lp lg lm ls uh um ub ud ug ul) (f_X1_replayInto_tl lk lp lg lm ls uh um ub ud ug ul) p = f_X2_isTainted_r th td tl p) : f_L_taintedAnew_r uh um ub ud ug ul lk lp lg lm ls p = f_X2_isTainted_r th td tl p := by
  have k : f_X3_taintedAnew_k p = 0 := by unfold f_X3_taintedAnew_k; rw [if_neg (ps_ne h)]
  unfold f_L_taintedAnew_r
  rw [if_pos k]
  unfold f_X3_taintedAnew_r
  rw [if_neg (ps_ne h), an]
  rcases ta_b th td tl p with e | e
  · rw [e, if_pos rfl]
  · rw [e, if_neg (show ¬ (1 : Int32) = 0 by decide)]
theorem end_q {j : Nat} (hj : j < 1000) : f_L_ending_r nw de (nI j) = FX3_ending_16_r 13 0 nw de (nI j) := by
  have c : 0 ≤ nI j := nI_pos' (by omega)
  have k : f_X3_ending_k nw de (nI j) = 0 := by unfold f_X3_ending_k; rw [if_pos c]; exact nok_ending 13 0 nw de (nI j)
  unfold f_L_ending_r
  rw [if_pos k]
  unfold f_X3_ending_r
  rw [if_pos c]
end OF
section KEY
variable {kk kt : Nat → Int32} {nw : Int32} {de th td tl : Nat → Int32} {p : Int32}
theorem keyOf_0 (h : vp_in p 4) : f_L_keyOf_r kk kt nw de th td tl p 0 = (kk (p).toNatClampNeg) := by
  have k : f_X3_keyOf_k p 0 = 0 := by unfold f_X3_keyOf_k; rw [if_neg (kin_ne h), if_pos rfl]
  unfold f_L_keyOf_r
  rw [if_pos k]
  unfold f_X3_keyOf_r
  rw [if_neg (kin_ne h), if_pos rfl]
theorem keyOf_1 (h : vp_in p 4) : f_L_keyOf_r kk kt nw de th td tl p 1 = (kt (p).toNatClampNeg) := by
  have k : f_X3_keyOf_k p 1 = 0 := by unfold f_X3_keyOf_k; rw [if_neg (kin_ne h), if_neg (show ¬ (1 : Int32) = 0 by decide), if_pos rfl]
  unfold f_L_keyOf_r
  rw [if_pos k]
  unfold f_X3_keyOf_r
  rw [if_neg (kin_ne h), if_neg (show ¬ (1 : Int32) = 0 by decide), if_pos rfl]
theorem keyOf_2 (h : vp_in p 4) : f_L_keyOf_r kk kt nw de th td tl p 2 = (f_X3_countUsers_r kk nw de th td tl p) := by
  have k : f_X3_keyOf_k p 2 = 0 := by unfold f_X3_keyOf_k; rw [if_neg (kin_ne h), if_neg (show ¬ (2 : Int32) = 0 by decide), if_neg (show ¬ (2 : Int32) = 1 by decide), if_pos rfl]
  unfold f_L_keyOf_r
  rw [if_pos k]
  unfold f_X3_keyOf_r
  rw [if_neg (kin_ne h), if_neg (show ¬ (2 : Int32) = 0 by decide), if_neg (show ¬ (2 : Int32) = 1 by decide), if_pos rfl]
theorem use_q (h : vp_in p 4) : f_L_use_r kk kt nw de th td tl p = (if f_X3_countUsers_r kk nw de th td tl p < kt (p).toNatClampNeg then 0 else 1) := by
  have k : f_X3_use_k p = 0 := by unfold f_X3_use_k; rw [if_neg (kin_ne h)]
  unfold f_L_use_r
  rw [if_pos k]
  unfold f_X3_use_r
  rw [if_neg (kin_ne h)]
  split
  · rw [if_pos rfl]
  · rw [if_neg (show ¬ (1 : Int32) = 0 by decide)]
end KEY
/-! ### who ends when -/
theorem zct_same (P Q : Nat → Prop) [DecidablePred P] [DecidablePred Q] : ∀ n, (∀ j, j < n → (P j ↔ Q j)) → zct P n = zct Q n
  | 0, _ => rfl
  | n + 1, h => by
    have h1 := zct_same P Q n (fun j hj => h j (by omega))
    unfold zct
    rw [h1]
    by_cases c : P n
    · rw [if_pos c, if_pos ((h n (by omega)).mp c)]
    · rw [if_neg c, if_neg (fun q => c ((h n (by omega)).mpr q))]
theorem zct_none (P : Nat → Prop) [DecidablePred P] : ∀ n, (∀ j, j < n → ¬ P j) → zct P n = 0
  | 0, _ => rfl
  | n + 1, h => by
    have h1 := zct_none P n (fun j hj => h j (by omega))
    unfold zct
    rw [h1, if_neg (h n (by omega))]
theorem zct_rem (P : Nat → Prop) [DecidablePred P] (i : Nat) (hi : P i) : ∀ n, i < n → zct P n = zct (fun j => P j ∧ ¬ j = i) n + 1
  | 0, h => absurd h (Nat.not_lt_zero _)
  | n + 1, h => by
    show zct P n + (if P n then 1 else 0) = zct (fun j => P j ∧ ¬ j = i) n + (if P n ∧ ¬ n = i then 1 else 0) + 1
    by_cases c : n = i
    · subst c
      rw [if_pos hi, if_neg (fun q => q.2 rfl), zct_same P (fun j => P j ∧ ¬ j = n) n (fun j hj => ⟨fun q => ⟨q, by omega⟩, fun q => q.1⟩)]
    · rw [zct_rem P i hi n (by omega)]
      by_cases d : P n
      · rw [if_pos d, if_pos ⟨d, c⟩]
      · rw [if_neg d, if_neg (fun q => d q.1)]
theorem pig : ∀ (m n : Nat) (P : Nat → Prop) [DecidablePred P] (f : Nat → Nat), (∀ i, i < n → P i → f i < m) → (∀ i j, i < n → j < n → P i → P j → f i = f j → i = j) → zct P n ≤ m
  | 0, n, P, _, f, h1, _ => by
    have : zct P n = 0 := zct_none P n (fun i hi q => absurd (h1 i hi q) (Nat.not_lt_zero _))
    omega
  | m + 1, n, P, _, f, h1, h2 => by
    rcases Classical.em (∃ i, i < n ∧ P i ∧ f i = m) with c | c
    · obtain ⟨i, hi, hP, hf⟩ := c
      rw [zct_rem P i hP n hi]
      have := pig m n (fun j => P j ∧ ¬ j = i) f (fun j hj q => by
        have a := h1 j hj q.1
        have b : f j ≠ m := fun e => q.2 (h2 j i hj hi q.1 hP (e.trans hf.symm))
        omega) (fun a b ha hb q1 q2 e => h2 a b ha hb q1.1 q2.1 e)
      omega
    · have := pig m n P f (fun j hj q => by
        have a := h1 j hj q
        have b : f j ≠ m := fun e => c ⟨j, hj, q, e⟩
        omega) h2
      omega
/-- who is in a session -/
abbrev isn (de : Nat → Int32) (nw : Int32) (j : Nat) : Prop := ¬ de j ≤ nw
theorem ahd_no (de : Nat → Int32) (nw : Int32) (i : Nat) : ¬ ahd de nw i i := fun q => by
  rcases q.2 with q | q
  · rw [Int32.lt_iff_toInt_lt] at q; omega
  · omega
theorem ahd_lt (de : Nat → Int32) (nw : Int32) (a b : Nat) (ha : a < 12) (hab : ahd de nw b a) : zct (ahd de nw a) 12 < zct (ahd de nw b) 12 := by
  refine zct_lt (ahd de nw a) (ahd de nw b) (fun z (hz : ahd de nw a z) => ⟨hz.1, ?_⟩) a hab (ahd_no de nw a) 12 ha
  rcases hz.2 with z1 | ⟨z1, z2⟩ <;> rcases hab.2 with y1 | ⟨y1, y2⟩
  · refine Or.inl ?_
    rw [Int32.lt_iff_toInt_lt] at z1 y1 ⊢
    omega
  · rw [← y1]; exact Or.inl z1
  · rw [z1]; exact Or.inl y1
  · exact Or.inr ⟨z1.trans y1, by omega⟩
theorem rank_lt (de : Nat → Int32) (nw : Int32) (i : Nat) (hi : i < 12) (hP : isn de nw i) : zct (ahd de nw i) 12 < zct (isn de nw) 12 :=
  zct_lt (ahd de nw i) (isn de nw) (fun z (hz : ahd de nw i z) => hz.1) i hP (ahd_no de nw i) 12 hi
theorem rank_ex (de : Nat → Int32) (nw : Int32) (j : Nat) (hj : j < zct (isn de nw) 12) : ∃ i, i < 12 ∧ isn de nw i ∧ zct (ahd de nw i) 12 = j := by
  rcases Classical.em (∃ i, i < 12 ∧ isn de nw i ∧ zct (ahd de nw i) 12 = j) with c | c
  · exact c
  · exfalso
    have := pig (zct (isn de nw) 12 - 1) 12 (isn de nw) (fun i => if j < zct (ahd de nw i) 12 then zct (ahd de nw i) 12 - 1 else zct (ahd de nw i) 12) (fun i hi hP => by
      have h1 := rank_lt de nw i hi hP
      have h2 : zct (ahd de nw i) 12 ≠ j := fun e => c ⟨i, hi, hP, e⟩
      show (if j < zct (ahd de nw i) 12 then zct (ahd de nw i) 12 - 1 else zct (ahd de nw i) 12) < _
      split <;> omega) (fun a b ha hb hPa hPb e => by
      rcases Nat.decEq a b with n | n
      · exfalso
        have h1 := ahd_ne de nw a b ha hb n hPa hPb
        have h2 : zct (ahd de nw a) 12 ≠ j := fun e => c ⟨a, ha, hPa, e⟩
        have h3 : zct (ahd de nw b) 12 ≠ j := fun e => c ⟨b, hb, hPb, e⟩
        have e : (if j < zct (ahd de nw a) 12 then zct (ahd de nw a) 12 - 1 else zct (ahd de nw a) 12) = (if j < zct (ahd de nw b) 12 then zct (ahd de nw b) 12 - 1 else zct (ahd de nw b) 12) := e
        split at e <;> split at e <;> omega
      · exact n)
    omega
theorem end_hit (de : Nat → Int32) (nw : Int32) (i : Nat) (hi : i < 12) (hP : isn de nw i) : ∀ (n k : Nat), n + k = 13 → k ≤ i → FX3_ending_16_r n (nI k) nw de (nI (zct (ahd de nw i) 12)) = nI i
  | 0, k, h, h2 => by omega
  | n + 1, k, h, h2 => by
    unfold FX3_ending_16_r
    rw [if_neg (zc_12 (by omega)), nI_1]
    by_cases e : k = i
    · subst e
      unfold f_X0_isInSession_r
      rw [zc_nat (n := k) (by omega), if_neg hP, if_neg (show ¬ (1 : Int32) = 0 by decide), ahd_gv de nw k hi, if_pos rfl]
    · have ih := end_hit de nw i hi hP n (k + 1) (by omega) (by omega)
      unfold f_X0_isInSession_r
      rw [zc_nat (n := k) (by omega)]
      by_cases c : de k ≤ nw
      · rw [if_pos c, if_pos rfl, ih]
      · have b1 := zct_bd (ahd de nw k) 12
        have b2 := zct_bd (ahd de nw i) 12
        rw [if_neg c, if_neg (show ¬ (1 : Int32) = 0 by decide), ahd_gv de nw k (by omega), if_neg (fun q => ahd_ne de nw k i (by omega) hi e c hP ((nI_eq (by omega) (by omega)).mp q)), ih]
theorem end_miss (de : Nat → Int32) (nw : Int32) (p0 : Int32) (hh : ∀ j, j < 12 → isn de nw j → nI (zct (ahd de nw j) 12) ≠ p0) : ∀ (n k : Nat), n + k = 13 → k ≤ 12 → FX3_ending_16_r n (nI k) nw de p0 = -1
  | 0, k, h, h2 => by omega
  | n + 1, k, h, h2 => by
    unfold FX3_ending_16_r
    by_cases e : k = 12
    · subst e; rw [if_pos zc_12e]
    · have ih := end_miss de nw p0 hh n (k + 1) (by omega) (by omega)
      rw [if_neg (zc_12 (by omega)), nI_1]
      unfold f_X0_isInSession_r
      rw [zc_nat (n := k) (by omega)]
      by_cases c : de k ≤ nw
      · rw [if_pos c, if_pos rfl, ih]
      · rw [if_neg c, if_neg (show ¬ (1 : Int32) = 0 by decide), ahd_gv de nw k (by omega), if_neg (hh k (by omega) c), ih]
/-- the rank j's person, and what ending answers -/
theorem ending_hit (de : Nat → Int32) (nw : Int32) (j : Nat) (hj : j < zct (isn de nw) 12) : ∃ i, i < 12 ∧ isn de nw i ∧ zct (ahd de nw i) 12 = j ∧ f_L_ending_r nw de (nI j) = nI i := by
  have hb := zct_bd (isn de nw) 12
  obtain ⟨i, hi, hP, hr⟩ := rank_ex de nw j hj
  refine ⟨i, hi, hP, hr, ?_⟩
  have := end_hit de nw i hi hP 13 0 rfl (Nat.zero_le _)
  rw [end_q (by omega), ← hr]
  exact this
theorem ending_miss (de : Nat → Int32) (nw : Int32) : f_L_ending_r nw de (nI (zct (isn de nw) 12)) = -1 := by
  have hb := zct_bd (isn de nw) 12
  rw [end_q (by omega)]
  exact end_miss de nw _ (fun j hj hP q => by
    have h1 := rank_lt de nw j hj hP
    have := (nI_eq (by omega) (by omega)).mp q
    omega) 13 0 rfl (Nat.zero_le _)
theorem cnt_st (de : Nat → Int32) (nw : Int32) (k : Nat) (hk : k < 12) : nI (zct (isn de nw) k) + f_X0_isInSession_r de (nI k) nw = nI (zct (isn de nw) (k + 1)) := by
  unfold f_X0_isInSession_r
  rw [zc_nat (by omega)]
  show _ = nI (zct (isn de nw) k + (if isn de nw k then 1 else 0))
  by_cases c : de k ≤ nw
  · rw [if_pos c, if_neg (fun q => q c), Int32.add_zero, Nat.add_zero]
  · rw [if_neg c, if_pos c, nI_1]
def BEF (de : Nat → Int32) (nw : Int32) (j : Nat) (x : Int32) : Prop := ∀ i, i < 12 → isn de nw i → j ≤ zct (ahd de nw i) 12 → x ≤ de i
theorem bef_s (de : Nat → Int32) (nw : Int32) {i j : Nat} (hi : i < 12) (hP : isn de nw i) (hr : zct (ahd de nw i) 12 = j) : BEF de nw (j + 1) (de i) := fun a ha hPa hj => by
  by_cases c : (de a).toInt < (de i).toInt
  · have := ahd_lt de nw a i ha ⟨hPa, Or.inl (Int32.lt_iff_toInt_lt.mpr c)⟩
    omega
  · exact Int32.le_iff_toInt_le.mpr (by omega)
theorem vE_in {de : Nat → Int32} {nw : Int32} {i : Nat} (hi : i < 12) (hP : isn de nw i) : vE de nw (nI i) = de i := by
  unfold vE
  rw [zc_nat (by omega), if_neg hP]
