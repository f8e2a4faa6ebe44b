/-- from x one comes to staff by n vouchings at most -/
def mRch (bY ho : Nat → Int32) : Nat → Int32 → Prop
  | 0, x => x < 4
  | n + 1, x => x < 4 ∨ (¬ bY x.toNatClampNeg = -1 ∧ mRch bY ho n (ho (bY x.toNatClampNeg).toNatClampNeg))
theorem mRch_of : ∀ (n : Nat) (x2 x3 : Int32) (bY ho : Nat → Int32), n ≤ 12 → x3 = nI (12 - n) → FX4_chainOf_4_x2 (n + 1) x2 x3 bY ho < 4 → mRch bY ho n x2
  | 0, x2, x3, bY, ho, _, e, h => by
    have c3 : (12 : Int32) ≤ x3 := by rw [e]; decide
    simp only [FX4_chainOf_4_x2, if_pos c3] at h
    show x2 < 4
    by_cases c1 : x2 < 4
    · exact c1
    · rw [if_neg c1] at h
      by_cases c2 : bY x2.toNatClampNeg = -1
      · rw [if_pos c2] at h; exact h
      · rw [if_neg c2] at h; exact h
  | n + 1, x2, x3, bY, ho, hn, e, h => by
    rw [FX4_chainOf_4_x2] at h
    by_cases c1 : x2 < 4
    · exact Or.inl c1
    · rw [if_neg c1] at h
      by_cases c2 : bY x2.toNatClampNeg = -1
      · rw [if_pos c2] at h; exact Or.inl h
      · rw [if_neg c2] at h
        by_cases c3 : 12 ≤ x3
        · rw [if_pos c3] at h; exact Or.inl h
        · rw [if_neg c3] at h
          exact Or.inr ⟨c2, mRch_of n _ _ bY ho (by omega) (by rw [e, nI_1]; congr 1; omega) h⟩
theorem mr_init {bY ho : Nat → Int32} {x : Int32} (h : ¬ f_X4_isTrusted_r bY ho x = 0) : mRch bY ho 12 x := by
  refine mRch_of 12 x 0 bY ho (Nat.le_refl _) rfl ?_
  by_cases c1 : f_X4_chainOf_r bY ho x = -1
  · exact absurd (by simp only [f_X4_isTrusted_r, if_pos c1]) h
  · by_cases c2 : 4 ≤ FX4_chainOf_4_x2 13 x 0 bY ho
    · exact absurd (by simp only [f_X4_chainOf_r, if_pos c2]) c1
    · show FX4_chainOf_4_x2 13 x 0 bY ho < 4
      rw [Int32.le_iff_toInt_le] at c2
      rw [Int32.lt_iff_toInt_lt]
      omega
theorem mr_by {bY ho : Nat → Int32} {x2 x3 : Int32} {n : Nat} (hI : vp_in x3 12 ∧ 1 ≤ n + 1 ∧ (x2 ≤ 0 ∨ mRch bY ho (n + 1 - 1) x3)) (c1 : ¬ x2 ≤ 0) (c2 : ¬ x3 < 4) : ¬ bY x3.toNatClampNeg = -1 := by
  have h : mRch bY ho n x3 := hI.2.2.resolve_left c1
  cases n with
  | zero => exact absurd h c2
  | succ n => exact (h.resolve_left c2).1
theorem mr_step {bY ho : Nat → Int32} {x2 x3 y : Int32} {n : Nat} (hI : vp_in x3 12 ∧ 1 ≤ n + 1 ∧ (x2 ≤ 0 ∨ mRch bY ho (n + 1 - 1) x3)) (hv : vp_in (ho (bY x3.toNatClampNeg).toNatClampNeg) 12) (c1 : ¬ x2 ≤ 0) (c2 : ¬ x3 < 4) : vp_in (ho (bY x3.toNatClampNeg).toNatClampNeg) 12 ∧ 1 ≤ n ∧ (y ≤ 0 ∨ mRch bY ho (n - 1) (ho (bY x3.toNatClampNeg).toNatClampNeg)) := by
  have h : mRch bY ho n x3 := hI.2.2.resolve_left c1
  cases n with
  | zero => exact absurd h c2
  | succ n => exact ⟨hv, by omega, Or.inr (h.resolve_left c2).2⟩
def FX4_roomsOf_17_x2 : Nat → Int32 → Int32 → (Nat → Int32) → (Nat → Int32) → (Nat → Int32) → Int32
  | 0, _, _, _, _, _ => 0
  | n + 1, x2, x3, mbY, mho, mro => (if x2 ≤ 0 then x2 else (if x3 < 4 then x2 else (FX4_roomsOf_17_x2 n (x2 &&& (mro ((mbY (x3).toNatClampNeg)).toNatClampNeg)) (mho ((mbY (x3).toNatClampNeg)).toNatClampNeg) mbY mho mro)))
def FX4_roomsOf_17_x3 : Nat → Int32 → Int32 → (Nat → Int32) → (Nat → Int32) → (Nat → Int32) → Int32
  | 0, _, _, _, _, _ => 0
  | n + 1, x2, x3, mbY, mho, mro => (if x2 ≤ 0 then x3 else (if x3 < 4 then x3 else (FX4_roomsOf_17_x3 n (x2 &&& (mro ((mbY (x3).toNatClampNeg)).toNatClampNeg)) (mho ((mbY (x3).toNatClampNeg)).toNatClampNeg) mbY mho mro)))
def f_X4_roomsOf_r (mbY : Nat → Int32) (mho : Nat → Int32) (mro : Nat → Int32) (p0 : Int32) : Int32 := (if (f_X4_isTrusted_r mbY mho p0) = 0 then (FX4_roomsOf_17_x2 13 0 p0 mbY mho mro) else (FX4_roomsOf_17_x2 13 63 p0 mbY mho mro))
set_option maxHeartbeats 4000000 in
set_option maxRecDepth 100000 in
theorem c_X4_roomsOf (l : Launch) (G : va_G) (am : Nat → Nat) (mmi : Int32) (mwo : Nat → Int32) (mfa : Nat → Int32) (mre : Nat → Int32) (men : Nat → Int32) (mbY : Nat → Int32) (mbg : Nat → Int32) (mlo : Nat → Int32) (mnb : Int32) (mvo : Int32) (mho : Nat → Int32) (mro : Nat → Int32) (mwe : Nat → Int32) (mwi : Nat → Int32) (mba : Nat → Int32) (mkp : Nat → Int32) (mth : Nat → Int32) (msg : Nat → Int32) (mns : Int32) (mtw : Int32) (p0 : Int32) (h0 : vp_in p0 12) (hby : ∀ j : Nat, j < 12 → mbY j = -1 ∨ vp_in (mbY j) 100) (hho : ∀ j : Nat, j < 100 → vp_in (mho j) 12) : Ke l yX4_roomsOf wsX4_roomsOf { frames := 2, cells := 0, slots := 0, locals := 44 } 0 0 G (wM G am mmi mwo mfa mre men mbY mbg mlo mnb mvo mho mro mwe mwi mba mkp mth msg mns mtw) [.ref (am 0), .int p0] (f_X4_roomsOf_r mbY mho mro p0) (wM G am mmi mwo mfa mre men mbY mbg mlo mnb mvo mho mro mwe mwi mba mkp mth msg mns mtw) := by
  refine v_ofi (cc := cX4_roomsOf) (nL := 4) (lv := [(0, .ref (am 0)), (1, .int p0)]) (by decide) rfl (Nat.le_of_ble_eq_true rfl) rfl ?_
  intro p e s m args below meth c A X hr
  refine v_aload_n (pc := 0) X dX4_roomsOf_0 0 rfl ?_
  refine v_iload_n (pc := 1) X dX4_roomsOf_1 1 rfl ?_
  refine v_eV (pc := 2) (rest := []) (n := 1) (wr := ([] : va_W)) (wn := (wM G am mmi mwo mfa mre men mbY mbg mlo mnb mvo mho mro mwe mwi mba mkp mth msg mns mtw)) (isC := [0, 1, 2, 3, 4, 5, 6, 7, 8, 9, 10, 11, 12, 13, 14, 15]) (isR := []) (isP := [0, 1, 2, 3, 4, 5, 6, 7, 8, 9, 10, 11, 12, 13, 14, 15]) X (c_X4_isTrusted l G am mmi mwo mfa mre men mbY mbg mlo mnb mvo mho mro mwe mwi mba mkp mth msg mns mtw p0 h0 hby hho) gX4_roomsOf_X4_isTrusted rfl rfl rfl (by decide +kernel) ⟨Nat.le_of_ble_eq_true rfl, Nat.le_of_ble_eq_true rfl⟩ dX4_roomsOf_2 rfl rfl (Nat.le_of_ble_eq_true rfl) ⟨Nat.le_of_ble_eq_true rfl, Nat.le_of_ble_eq_true rfl⟩ 0 rfl rfl ⟨rfl, rfl, rfl, rfl, by decide, rfl, rfl⟩ ?_
  refine v_if_eq (pc := 5) X 13 dX4_roomsOf_5 (by decide) (fun c_5 => ?_) (fun c_5 => ?_)
  · refine v_iconst (pc := 13) (v := 0) X dX4_roomsOf_13 (by decide) ?_
    refine v_istore_n (pc := 14) (lv' := [(0, .ref (am 0)), (1, .int p0), (2, .int 0)]) X dX4_roomsOf_14 rfl (Nat.le_of_ble_eq_true rfl) [1, 2, 0] rfl ?_
    refine v_iload_n (pc := 15) X dX4_roomsOf_15 1 rfl ?_
    refine v_istore_n (pc := 16) (lv' := [(0, .ref (am 0)), (1, .int p0), (2, .int 0), (3, .int p0)]) X dX4_roomsOf_16 rfl (Nat.le_of_ble_eq_true rfl) [1, 2, 3, 0] rfl ?_
    have LP17 : ∀ (n : Nat) (x2 : Int32) (x3 : Int32), (vp_in x3 12 ∧ 1 ≤ n ∧ (x2 ≤ 0 ∨ mRch mbY mho (n - 1) x3)) → V p l e (headSpec wsX4_roomsOf { frames := 2, cells := 0, slots := 0, locals := 44 }).room s m args below meth c 4 G A 0 0 (QI below args s G A 0 0 (S := Unit) (fun x _ => x = (f_X4_roomsOf_r mbY mho mro p0)) (fun _ => (wM G am mmi mwo mfa mre men mbY mbg mlo mnb mvo mho mro mwe mwi mba mkp mth msg mns mtw))) (wM G am mmi mwo mfa mre men mbY mbg mlo mnb mvo mho mro mwe mwi mba mkp mth msg mns mtw) [(0, .ref (am 0)), (1, .int p0), (2, .int (FX4_roomsOf_17_x2 n x2 x3 mbY mho mro)), (3, .int (FX4_roomsOf_17_x3 n x2 x3 mbY mho mro))] 55 [] → V p l e (headSpec wsX4_roomsOf { frames := 2, cells := 0, slots := 0, locals := 44 }).room s m args below meth c 4 G A 0 0 (QI below args s G A 0 0 (S := Unit) (fun x _ => x = (f_X4_roomsOf_r mbY mho mro p0)) (fun _ => (wM G am mmi mwo mfa mre men mbY mbg mlo mnb mvo mho mro mwe mwi mba mkp mth msg mns mtw))) (wM G am mmi mwo mfa mre men mbY mbg mlo mnb mvo mho mro mwe mwi mba mkp mth msg mns mtw) [(0, .ref (am 0)), (1, .int p0), (2, .int x2), (3, .int x3)] 17 [] := by
      intro n
      induction n with
      | zero => intro x2 x3 hI hK; exact False.elim (by omega)
      | succ n ih =>
        intro x2 x3 hI hK
        refine v_iload_n (pc := 17) X dX4_roomsOf_17 2 rfl ?_
        refine v_if_le (pc := 18) X 55 dX4_roomsOf_18 (by decide) (fun c_18 => ?_) (fun c_18 => ?_)
        · simpa only [FX4_roomsOf_17_x2, FX4_roomsOf_17_x3, if_pos c_18] using hK
        · refine v_iload_n (pc := 21) X dX4_roomsOf_21 3 rfl ?_
          refine v_iconst (pc := 22) (v := 4) X dX4_roomsOf_22 (by decide) ?_
          refine v_icmp_lt (pc := 23) X 55 dX4_roomsOf_23 (by decide) (fun c_23 => ?_) (fun c_23 => ?_)
          · simpa only [FX4_roomsOf_17_x2, FX4_roomsOf_17_x3, if_neg c_18, if_pos c_23] using hK
          · have hx3 : vp_in x3 12 := hI.1
            have hb : vp_in (mbY (x3).toNatClampNeg) 100 := (hby _ (vp_lt hx3)).resolve_left (mr_by hI c_18 c_23)
            refine v_iload_n (pc := 26) X dX4_roomsOf_26 2 rfl ?_
            refine v_aload_n (pc := 27) X dX4_roomsOf_27 0 rfl ?_
            refine v_get (pc := 28) (k := 11) (i := 1) X dX4_roomsOf_28 (fun _ h => List.mem_cons_of_mem _ (List.mem_append_right _ h)) 0 rfl rfl (Nat.le_of_ble_eq_true rfl) rfl rfl rfl ?_
            refine v_aload_n (pc := 31) X dX4_roomsOf_31 0 rfl ?_
            refine v_get (pc := 32) (k := 5) (i := 2) X dX4_roomsOf_32 (fun _ h => List.mem_cons_of_mem _ (List.mem_append_right _ h)) 0 rfl rfl (Nat.le_of_ble_eq_true rfl) rfl rfl rfl ?_
            refine v_iload_n (pc := 35) X dX4_roomsOf_35 3 rfl ?_
            refine v_iald (pc := 36) X dX4_roomsOf_36 5 rfl hx3 rfl ?_
            refine v_iald (pc := 37) X dX4_roomsOf_37 9 rfl hb rfl ?_
            refine v_iand (pc := 38) X dX4_roomsOf_38 rfl ?_
            refine v_istore_n (pc := 39) (lv' := [(0, .ref (am 0)), (1, .int p0), (2, .int (x2 &&& (mro ((mbY (x3).toNatClampNeg)).toNatClampNeg))), (3, .int x3)]) X dX4_roomsOf_39 rfl (Nat.le_of_ble_eq_true rfl) [1, 2, 0, 3] rfl ?_
            refine v_aload_n (pc := 40) X dX4_roomsOf_40 0 rfl ?_
            refine v_get (pc := 41) (k := 10) (i := 3) X dX4_roomsOf_41 (fun _ h => List.mem_cons_of_mem _ (List.mem_append_right _ h)) 0 rfl rfl (Nat.le_of_ble_eq_true rfl) rfl rfl rfl ?_
            refine v_aload_n (pc := 44) X dX4_roomsOf_44 0 rfl ?_
            refine v_get (pc := 45) (k := 5) (i := 2) X dX4_roomsOf_45 (fun _ h => List.mem_cons_of_mem _ (List.mem_append_right _ h)) 0 rfl rfl (Nat.le_of_ble_eq_true rfl) rfl rfl rfl ?_
            refine v_iload_n (pc := 48) X dX4_roomsOf_48 3 rfl ?_
            refine v_iald (pc := 49) X dX4_roomsOf_49 5 rfl hx3 rfl ?_
            refine v_iald (pc := 50) X dX4_roomsOf_50 8 rfl hb rfl ?_
            refine v_istore_n (pc := 51) (lv' := [(0, .ref (am 0)), (1, .int p0), (2, .int (x2 &&& (mro ((mbY (x3).toNatClampNeg)).toNatClampNeg))), (3, .int (mho ((mbY (x3).toNatClampNeg)).toNatClampNeg))]) X dX4_roomsOf_51 rfl (Nat.le_of_ble_eq_true rfl) [1, 2, 3, 0] rfl ?_
            refine v_goto (pc := 52) X 17 dX4_roomsOf_52 (by decide) ?_
            exact ih (x2 &&& (mro ((mbY (x3).toNatClampNeg)).toNatClampNeg)) (mho ((mbY (x3).toNatClampNeg)).toNatClampNeg) (mr_step hI (hho _ (vp_lt hb)) c_18 c_23) (by simpa only [FX4_roomsOf_17_x2, FX4_roomsOf_17_x3, if_neg c_18, if_neg c_23] using hK)
    refine LP17 13 0 p0 (⟨h0, by decide, by first | exact Or.inl (by decide) | exact Or.inr (mr_init c_5)⟩) ?_
    refine v_iload_n (pc := 55) X dX4_roomsOf_55 2 rfl ?_
    exact v_iret (pc := 56) X hr dX4_roomsOf_56 () rfl (by show (FX4_roomsOf_17_x2 13 0 p0 mbY mho mro) = (f_X4_roomsOf_r mbY mho mro p0); simp only [f_X4_roomsOf_r, if_pos c_5])
  · refine v_bipush (pc := 8) (v := 63) X dX4_roomsOf_8 (by decide) ?_
    refine v_goto (pc := 10) X 14 dX4_roomsOf_10 (by decide) ?_
    refine v_istore_n (pc := 14) (lv' := [(0, .ref (am 0)), (1, .int p0), (2, .int 63)]) X dX4_roomsOf_14 rfl (Nat.le_of_ble_eq_true rfl) [1, 2, 0] rfl ?_
    refine v_iload_n (pc := 15) X dX4_roomsOf_15 1 rfl ?_
    refine v_istore_n (pc := 16) (lv' := [(0, .ref (am 0)), (1, .int p0), (2, .int 63), (3, .int p0)]) X dX4_roomsOf_16 rfl (Nat.le_of_ble_eq_true rfl) [1, 2, 3, 0] rfl ?_
    have LP17 : ∀ (n : Nat) (x2 : Int32) (x3 : Int32), (vp_in x3 12 ∧ 1 ≤ n ∧ (x2 ≤ 0 ∨ mRch mbY mho (n - 1) x3)) → V p l e (headSpec wsX4_roomsOf { frames := 2, cells := 0, slots := 0, locals := 44 }).room s m args below meth c 4 G A 0 0 (QI below args s G A 0 0 (S := Unit) (fun x _ => x = (f_X4_roomsOf_r mbY mho mro p0)) (fun _ => (wM G am mmi mwo mfa mre men mbY mbg mlo mnb mvo mho mro mwe mwi mba mkp mth msg mns mtw))) (wM G am mmi mwo mfa mre men mbY mbg mlo mnb mvo mho mro mwe mwi mba mkp mth msg mns mtw) [(0, .ref (am 0)), (1, .int p0), (2, .int (FX4_roomsOf_17_x2 n x2 x3 mbY mho mro)), (3, .int (FX4_roomsOf_17_x3 n x2 x3 mbY mho mro))] 55 [] → V p l e (headSpec wsX4_roomsOf { frames := 2, cells := 0, slots := 0, locals := 44 }).room s m args below meth c 4 G A 0 0 (QI below args s G A 0 0 (S := Unit) (fun x _ => x = (f_X4_roomsOf_r mbY mho mro p0)) (fun _ => (wM G am mmi mwo mfa mre men mbY mbg mlo mnb mvo mho mro mwe mwi mba mkp mth msg mns mtw))) (wM G am mmi mwo mfa mre men mbY mbg mlo mnb mvo mho mro mwe mwi mba mkp mth msg mns mtw) [(0, .ref (am 0)), (1, .int p0), (2, .int x2), (3, .int x3)] 17 [] := by
      intro n
      induction n with
      | zero => intro x2 x3 hI hK; exact False.elim (by omega)
      | succ n ih =>
        intro x2 x3 hI hK
        refine v_iload_n (pc := 17) X dX4_roomsOf_17 2 rfl ?_
        refine v_if_le (pc := 18) X 55 dX4_roomsOf_18 (by decide) (fun c_18 => ?_) (fun c_18 => ?_)
        · simpa only [FX4_roomsOf_17_x2, FX4_roomsOf_17_x3, if_pos c_18] using hK
        · refine v_iload_n (pc := 21) X dX4_roomsOf_21 3 rfl ?_
          refine v_iconst (pc := 22) (v := 4) X dX4_roomsOf_22 (by decide) ?_
          refine v_icmp_lt (pc := 23) X 55 dX4_roomsOf_23 (by decide) (fun c_23 => ?_) (fun c_23 => ?_)
          · simpa only [FX4_roomsOf_17_x2, FX4_roomsOf_17_x3, if_neg c_18, if_pos c_23] using hK
          · have hx3 : vp_in x3 12 := hI.1
            have hb : vp_in (mbY (x3).toNatClampNeg) 100 := (hby _ (vp_lt hx3)).resolve_left (mr_by hI c_18 c_23)
            refine v_iload_n (pc := 26) X dX4_roomsOf_26 2 rfl ?_
            refine v_aload_n (pc := 27) X dX4_roomsOf_27 0 rfl ?_
            refine v_get (pc := 28) (k := 11) (i := 1) X dX4_roomsOf_28 (fun _ h => List.mem_cons_of_mem _ (List.mem_append_right _ h)) 0 rfl rfl (Nat.le_of_ble_eq_true rfl) rfl rfl rfl ?_
            refine v_aload_n (pc := 31) X dX4_roomsOf_31 0 rfl ?_
            refine v_get (pc := 32) (k := 5) (i := 2) X dX4_roomsOf_32 (fun _ h => List.mem_cons_of_mem _ (List.mem_append_right _ h)) 0 rfl rfl (Nat.le_of_ble_eq_true rfl) rfl rfl rfl ?_
            refine v_iload_n (pc := 35) X dX4_roomsOf_35 3 rfl ?_
            refine v_iald (pc := 36) X dX4_roomsOf_36 5 rfl hx3 rfl ?_
            refine v_iald (pc := 37) X dX4_roomsOf_37 9 rfl hb rfl ?_
            refine v_iand (pc := 38) X dX4_roomsOf_38 rfl ?_
            refine v_istore_n (pc := 39) (lv' := [(0, .ref (am 0)), (1, .int p0), (2, .int (x2 &&& (mro ((mbY (x3).toNatClampNeg)).toNatClampNeg))), (3, .int x3)]) X dX4_roomsOf_39 rfl (Nat.le_of_ble_eq_true rfl) [1, 2, 0, 3] rfl ?_
            refine v_aload_n (pc := 40) X dX4_roomsOf_40 0 rfl ?_
            refine v_get (pc := 41) (k := 10) (i := 3) X dX4_roomsOf_41 (fun _ h => List.mem_cons_of_mem _ (List.mem_append_right _ h)) 0 rfl rfl (Nat.le_of_ble_eq_true rfl) rfl rfl rfl ?_
            refine v_aload_n (pc := 44) X dX4_roomsOf_44 0 rfl ?_
            refine v_get (pc := 45) (k := 5) (i := 2) X dX4_roomsOf_45 (fun _ h => List.mem_cons_of_mem _ (List.mem_append_right _ h)) 0 rfl rfl (Nat.le_of_ble_eq_true rfl) rfl rfl rfl ?_
            refine v_iload_n (pc := 48) X dX4_roomsOf_48 3 rfl ?_
            refine v_iald (pc := 49) X dX4_roomsOf_49 5 rfl hx3 rfl ?_
            refine v_iald (pc := 50) X dX4_roomsOf_50 8 rfl hb rfl ?_
            refine v_istore_n (pc := 51) (lv' := [(0, .ref (am 0)), (1, .int p0), (2, .int (x2 &&& (mro ((mbY (x3).toNatClampNeg)).toNatClampNeg))), (3, .int (mho ((mbY (x3).toNatClampNeg)).toNatClampNeg))]) X dX4_roomsOf_51 rfl (Nat.le_of_ble_eq_true rfl) [1, 2, 3, 0] rfl ?_
            refine v_goto (pc := 52) X 17 dX4_roomsOf_52 (by decide) ?_
            exact ih (x2 &&& (mro ((mbY (x3).toNatClampNeg)).toNatClampNeg)) (mho ((mbY (x3).toNatClampNeg)).toNatClampNeg) (mr_step hI (hho _ (vp_lt hb)) c_18 c_23) (by simpa only [FX4_roomsOf_17_x2, FX4_roomsOf_17_x3, if_neg c_18, if_neg c_23] using hK)
    refine LP17 13 63 p0 (⟨h0, by decide, by first | exact Or.inl (by decide) | exact Or.inr (mr_init c_5)⟩) ?_
    refine v_iload_n (pc := 55) X dX4_roomsOf_55 2 rfl ?_
    exact v_iret (pc := 56) X hr dX4_roomsOf_56 () rfl (by show (FX4_roomsOf_17_x2 13 63 p0 mbY mho mro) = (f_X4_roomsOf_r mbY mho mro p0); simp only [f_X4_roomsOf_r, if_neg c_5])
def f_X4_canVouch_r (mmi : Int32) (men : Nat → Int32) (mbY : Nat → Int32) (mlo : Nat → Int32) (mho : Nat → Int32) (mba : Nat → Int32) (p0 : Int32) : Int32 := (if (f_X4_isIn_r mmi men p0) = 0 then 0 else (if (f_X4_isTainted_r mbY mlo mho mba p0) = 0 then (if (f_X4_isTrusted_r mbY mho p0) = 0 then 0 else 1) else 0))
set_option maxHeartbeats 4000000 in
set_option maxRecDepth 100000 in
theorem c_X4_canVouch (l : Launch) (G : va_G) (am : Nat → Nat) (mmi : Int32) (mwo : Nat → Int32) (mfa : Nat → Int32) (mre : Nat → Int32) (men : Nat → Int32) (mbY : Nat → Int32) (mbg : Nat → Int32) (mlo : Nat → Int32) (mnb : Int32) (mvo : Int32) (mho : Nat → Int32) (mro : Nat → Int32) (mwe : Nat → Int32) (mwi : Nat → Int32) (mba : Nat → Int32) (mkp : Nat → Int32) (mth : Nat → Int32) (msg : Nat → Int32) (mns : Int32) (mtw : Int32) (p0 : Int32) (h0 : vp_in p0 12) (hby : ∀ j : Nat, j < 12 → mbY j = -1 ∨ vp_in (mbY j) 100) (hho : ∀ j : Nat, j < 100 → vp_in (mho j) 12) (hlo : ∀ j : Nat, j < 12 → mlo j = 0 ∨ mlo j = 1) : Ke l yX4_canVouch wsX4_canVouch { frames := 2, cells := 0, slots := 0, locals := 44 } 0 0 G (wM G am mmi mwo mfa mre men mbY mbg mlo mnb mvo mho mro mwe mwi mba mkp mth msg mns mtw) [.ref (am 0), .int p0] (f_X4_canVouch_r mmi men mbY mlo mho mba p0) (wM G am mmi mwo mfa mre men mbY mbg mlo mnb mvo mho mro mwe mwi mba mkp mth msg mns mtw) := by
  refine v_ofi (cc := cX4_canVouch) (nL := 2) (lv := [(0, .ref (am 0)), (1, .int p0)]) (by decide) rfl (Nat.le_of_ble_eq_true rfl) rfl ?_
  intro p e s m args below meth c A X hr
  refine v_aload_n (pc := 0) X dX4_canVouch_0 0 rfl ?_
  refine v_iload_n (pc := 1) X dX4_canVouch_1 1 rfl ?_
  refine v_eV (pc := 2) (rest := []) (n := 1) (wr := ([] : va_W)) (wn := (wM G am mmi mwo mfa mre men mbY mbg mlo mnb mvo mho mro mwe mwi mba mkp mth msg mns mtw)) (isC := [0, 1, 2, 3, 4, 5, 6, 7, 8, 9, 10, 11, 12, 13, 14, 15]) (isR := []) (isP := [0, 1, 2, 3, 4, 5, 6, 7, 8, 9, 10, 11, 12, 13, 14, 15]) X (c_X4_isIn l G am mmi mwo mfa mre men mbY mbg mlo mnb mvo mho mro mwe mwi mba mkp mth msg mns mtw p0 h0) gX4_canVouch_X4_isIn rfl rfl rfl (by decide +kernel) ⟨Nat.le_of_ble_eq_true rfl, Nat.le_of_ble_eq_true rfl⟩ dX4_canVouch_2 rfl rfl (Nat.le_of_ble_eq_true rfl) ⟨Nat.le_of_ble_eq_true rfl, Nat.le_of_ble_eq_true rfl⟩ 0 rfl rfl ⟨rfl, rfl, rfl, rfl, by decide, rfl, rfl⟩ ?_
  refine v_if_eq (pc := 5) X 28 dX4_canVouch_5 (by decide) (fun c_5 => ?_) (fun c_5 => ?_)
  · refine v_iconst (pc := 28) (v := 0) X dX4_canVouch_28 (by decide) ?_
    exact v_zret (pc := 29) X hr rfl dX4_canVouch_29 () rfl (by show 0 = (f_X4_canVouch_r mmi men mbY mlo mho mba p0); simp only [f_X4_canVouch_r, if_pos c_5])
  · refine v_aload_n (pc := 8) X dX4_canVouch_8 0 rfl ?_
    refine v_iload_n (pc := 9) X dX4_canVouch_9 1 rfl ?_
    refine v_eV (pc := 10) (rest := []) (n := 1) (wr := ([] : va_W)) (wn := (wM G am mmi mwo mfa mre men mbY mbg mlo mnb mvo mho mro mwe mwi mba mkp mth msg mns mtw)) (isC := [0, 1, 2, 3, 4, 5, 6, 7, 8, 9, 10, 11, 12, 13, 14, 15]) (isR := []) (isP := [0, 1, 2, 3, 4, 5, 6, 7, 8, 9, 10, 11, 12, 13, 14, 15]) X (c_X4_isTainted l G am mmi mwo mfa mre men mbY mbg mlo mnb mvo mho mro mwe mwi mba mkp mth msg mns mtw p0 h0 hby hho hlo) gX4_canVouch_X4_isTainted rfl rfl rfl (by decide +kernel) ⟨Nat.le_of_ble_eq_true rfl, Nat.le_of_ble_eq_true rfl⟩ dX4_canVouch_10 rfl rfl (Nat.le_of_ble_eq_true rfl) ⟨Nat.le_of_ble_eq_true rfl, Nat.le_of_ble_eq_true rfl⟩ 0 rfl rfl ⟨rfl, rfl, rfl, rfl, by decide, rfl, rfl⟩ ?_
    refine v_if_ne (pc := 13) X 28 dX4_canVouch_13 (by decide) (fun c_13 => ?_) (fun c_13 => ?_)
    · refine v_iconst (pc := 28) (v := 0) X dX4_canVouch_28 (by decide) ?_
      exact v_zret (pc := 29) X hr rfl dX4_canVouch_29 () rfl (by show 0 = (f_X4_canVouch_r mmi men mbY mlo mho mba p0); simp only [f_X4_canVouch_r, if_neg c_5, if_neg c_13])
    · refine v_aload_n (pc := 16) X dX4_canVouch_16 0 rfl ?_
      refine v_iload_n (pc := 17) X dX4_canVouch_17 1 rfl ?_
      refine v_eV (pc := 18) (rest := []) (n := 1) (wr := ([] : va_W)) (wn := (wM G am mmi mwo mfa mre men mbY mbg mlo mnb mvo mho mro mwe mwi mba mkp mth msg mns mtw)) (isC := [0, 1, 2, 3, 4, 5, 6, 7, 8, 9, 10, 11, 12, 13, 14, 15]) (isR := []) (isP := [0, 1, 2, 3, 4, 5, 6, 7, 8, 9, 10, 11, 12, 13, 14, 15]) X (c_X4_isTrusted l G am mmi mwo mfa mre men mbY mbg mlo mnb mvo mho mro mwe mwi mba mkp mth msg mns mtw p0 h0 hby hho) gX4_canVouch_X4_isTrusted rfl rfl rfl (by decide +kernel) ⟨Nat.le_of_ble_eq_true rfl, Nat.le_of_ble_eq_true rfl⟩ dX4_canVouch_18 rfl rfl (Nat.le_of_ble_eq_true rfl) ⟨Nat.le_of_ble_eq_true rfl, Nat.le_of_ble_eq_true rfl⟩ 0 rfl rfl ⟨rfl, rfl, rfl, rfl, by decide, rfl, rfl⟩ ?_
      refine v_if_eq (pc := 21) X 28 dX4_canVouch_21 (by decide) (fun c_21 => ?_) (fun c_21 => ?_)
      · refine v_iconst (pc := 28) (v := 0) X dX4_canVouch_28 (by decide) ?_
        exact v_zret (pc := 29) X hr rfl dX4_canVouch_29 () rfl (by show 0 = (f_X4_canVouch_r mmi men mbY mlo mho mba p0); simp only [f_X4_canVouch_r, if_neg c_5, if_pos c_13, if_pos c_21])
      · refine v_iconst (pc := 24) (v := 1) X dX4_canVouch_24 (by decide) ?_
        refine v_goto (pc := 25) X 29 dX4_canVouch_25 (by decide) ?_
        exact v_zret (pc := 29) X hr rfl dX4_canVouch_29 () rfl (by show 1 = (f_X4_canVouch_r mmi men mbY mlo mho mba p0); simp only [f_X4_canVouch_r, if_neg c_5, if_pos c_13, if_neg c_21])
def f_X4_vouch_r (mmi : Int32) (men : Nat → Int32) (mbY : Nat → Int32) (mlo : Nat → Int32) (mvo : Int32) (mho : Nat → Int32) (mba : Nat → Int32) (p0 : Int32) (p1 : Int32) (p2 : Int32) : Int32 := (if (f_X4_isPerson_r p0) = 0 then 0 else (if (f_X4_isGuest_r p1) = 0 then 0 else (if p0 = p1 then 0 else (if (f_X4_in_r p2 1 63) = 0 then 0 else (if (f_X4_canVouch_r mmi men mbY mlo mho mba p0) = 0 then 0 else (if 100 ≤ mvo then 0 else (if (f_X4_goes_r 1 1 1) = 0 then 0 else (mvo + 1))))))))
def f_X4_vouch_mbY (mmi : Int32) (men : Nat → Int32) (mbY : Nat → Int32) (mlo : Nat → Int32) (mvo : Int32) (mho : Nat → Int32) (mba : Nat → Int32) (p0 : Int32) (p1 : Int32) (p2 : Int32) : Nat → Int32 := (if (f_X4_isPerson_r p0) = 0 then mbY else (if (f_X4_isGuest_r p1) = 0 then mbY else (if p0 = p1 then mbY else (if (f_X4_in_r p2 1 63) = 0 then mbY else (if (f_X4_canVouch_r mmi men mbY mlo mho mba p0) = 0 then mbY else (if 100 ≤ mvo then mbY else (if (f_X4_goes_r 1 1 1) = 0 then mbY else (upd mbY (p1).toNatClampNeg mvo))))))))
def f_X4_vouch_mvo (mmi : Int32) (men : Nat → Int32) (mbY : Nat → Int32) (mlo : Nat → Int32) (mvo : Int32) (mho : Nat → Int32) (mba : Nat → Int32) (p0 : Int32) (p1 : Int32) (p2 : Int32) : Int32 := (if (f_X4_isPerson_r p0) = 0 then mvo else (if (f_X4_isGuest_r p1) = 0 then mvo else (if p0 = p1 then mvo else (if (f_X4_in_r p2 1 63) = 0 then mvo else (if (f_X4_canVouch_r mmi men mbY mlo mho mba p0) = 0 then mvo else (if 100 ≤ mvo then mvo else (if (f_X4_goes_r 1 1 1) = 0 then mvo else (mvo + 1))))))))
def f_X4_vouch_mho (mmi : Int32) (men : Nat → Int32) (mbY : Nat → Int32) (mlo : Nat → Int32) (mvo : Int32) (mho : Nat → Int32) (mba : Nat → Int32) (p0 : Int32) (p1 : Int32) (p2 : Int32) : Nat → Int32 := (if (f_X4_isPerson_r p0) = 0 then mho else (if (f_X4_isGuest_r p1) = 0 then mho else (if p0 = p1 then mho else (if (f_X4_in_r p2 1 63) = 0 then mho else (if (f_X4_canVouch_r mmi men mbY mlo mho mba p0) = 0 then mho else (if 100 ≤ mvo then mho else (if (f_X4_goes_r 1 1 1) = 0 then mho else (upd mho (mvo).toNatClampNeg p0))))))))
def f_X4_vouch_mro (mmi : Int32) (men : Nat → Int32) (mbY : Nat → Int32) (mlo : Nat → Int32) (mvo : Int32) (mho : Nat → Int32) (mro : Nat → Int32) (mba : Nat → Int32) (p0 : Int32) (p1 : Int32) (p2 : Int32) : Nat → Int32 := (if (f_X4_isPerson_r p0) = 0 then mro else (if (f_X4_isGuest_r p1) = 0 then mro else (if p0 = p1 then mro else (if (f_X4_in_r p2 1 63) = 0 then mro else (if (f_X4_canVouch_r mmi men mbY mlo mho mba p0) = 0 then mro else (if 100 ≤ mvo then mro else (if (f_X4_goes_r 1 1 1) = 0 then mro else (upd mro (mvo).toNatClampNeg p2))))))))
def f_X4_vouch_mwe (mmi : Int32) (men : Nat → Int32) (mbY : Nat → Int32) (mlo : Nat → Int32) (mvo : Int32) (mho : Nat → Int32) (mwe : Nat → Int32) (mba : Nat → Int32) (p0 : Int32) (p1 : Int32) (p2 : Int32) : Nat → Int32 := (if (f_X4_isPerson_r p0) = 0 then mwe else (if (f_X4_isGuest_r p1) = 0 then mwe else (if p0 = p1 then mwe else (if (f_X4_in_r p2 1 63) = 0 then mwe else (if (f_X4_canVouch_r mmi men mbY mlo mho mba p0) = 0 then mwe else (if 100 ≤ mvo then mwe else (if (f_X4_goes_r 1 1 1) = 0 then mwe else (upd mwe (mvo).toNatClampNeg mmi))))))))
def f_X4_vouch_mwi (mmi : Int32) (men : Nat → Int32) (mbY : Nat → Int32) (mbg : Nat → Int32) (mlo : Nat → Int32) (mvo : Int32) (mho : Nat → Int32) (mwi : Nat → Int32) (mba : Nat → Int32) (p0 : Int32) (p1 : Int32) (p2 : Int32) : Nat → Int32 := (if (f_X4_isPerson_r p0) = 0 then mwi else (if (f_X4_isGuest_r p1) = 0 then mwi else (if p0 = p1 then mwi else (if (f_X4_in_r p2 1 63) = 0 then mwi else (if (f_X4_canVouch_r mmi men mbY mlo mho mba p0) = 0 then mwi else (if 100 ≤ mvo then mwi else (if (f_X4_goes_r 1 1 1) = 0 then mwi else (upd mwi (mvo).toNatClampNeg (mbg (p0).toNatClampNeg)))))))))
def f_X4_vouch_mtw (mmi : Int32) (men : Nat → Int32) (mbY : Nat → Int32) (mlo : Nat → Int32) (mvo : Int32) (mho : Nat → Int32) (mba : Nat → Int32) (p0 : Int32) (p1 : Int32) (p2 : Int32) : Int32 := (if (f_X4_isPerson_r p0) = 0 then (if p0 = p1 then (f_X4_goes_mtw 0 0 0) else (if (f_X4_in_r p2 1 63) = 0 then (f_X4_goes_mtw 0 0 0) else (f_X4_goes_mtw 0 1 0))) else (if (f_X4_isGuest_r p1) = 0 then (if p0 = p1 then (f_X4_goes_mtw 0 0 0) else (if (f_X4_in_r p2 1 63) = 0 then (f_X4_goes_mtw 0 0 0) else (f_X4_goes_mtw 0 1 0))) else (if p0 = p1 then (if (f_X4_canVouch_r mmi men mbY mlo mho mba p0) = 0 then (f_X4_goes_mtw 1 0 0) else (if 100 ≤ mvo then (f_X4_goes_mtw 1 0 0) else (f_X4_goes_mtw 1 0 1))) else (if (f_X4_in_r p2 1 63) = 0 then (if (f_X4_canVouch_r mmi men mbY mlo mho mba p0) = 0 then (f_X4_goes_mtw 1 0 0) else (if 100 ≤ mvo then (f_X4_goes_mtw 1 0 0) else (f_X4_goes_mtw 1 0 1))) else (if (f_X4_canVouch_r mmi men mbY mlo mho mba p0) = 0 then (f_X4_goes_mtw 1 1 0) else (if 100 ≤ mvo then (f_X4_goes_mtw 1 1 0) else (f_X4_goes_mtw 1 1 1)))))))
set_option maxHeartbeats 4000000 in
set_option maxRecDepth 100000 in
theorem c_X4_vouch (l : Launch) (G : va_G) (am : Nat → Nat) (mmi : Int32) (mwo : Nat → Int32) (mfa : Nat → Int32) (mre : Nat → Int32) (men : Nat → Int32) (mbY : Nat → Int32) (mbg : Nat → Int32) (mlo : Nat → Int32) (mnb : Int32) (mvo : Int32) (mho : Nat → Int32) (mro : Nat → Int32) (mwe : Nat → Int32) (mwi : Nat → Int32) (mba : Nat → Int32) (mkp : Nat → Int32) (mth : Nat → Int32) (msg : Nat → Int32) (mns : Int32) (mtw : Int32) (p0 : Int32) (p1 : Int32) (p2 : Int32) (hby : ∀ j : Nat, j < 12 → mbY j = -1 ∨ vp_in (mbY j) 100) (hho : ∀ j : Nat, j < 100 → vp_in (mho j) 12) (hlo : ∀ j : Nat, j < 12 → mlo j = 0 ∨ mlo j = 1) (hv0 : ¬ mvo < 0) : Ke l yX4_vouch wsX4_vouch { frames := 3, cells := 0, slots := 0, locals := 65 } 0 0 G (wM G am mmi mwo mfa mre men mbY mbg mlo mnb mvo mho mro mwe mwi mba mkp mth msg mns mtw) [.ref (am 0), .int p0, .int p1, .int p2] (f_X4_vouch_r mmi men mbY mlo mvo mho mba p0 p1 p2) (wM G am mmi mwo mfa mre men (f_X4_vouch_mbY mmi men mbY mlo mvo mho mba p0 p1 p2) mbg mlo mnb (f_X4_vouch_mvo mmi men mbY mlo mvo mho mba p0 p1 p2) (f_X4_vouch_mho mmi men mbY mlo mvo mho mba p0 p1 p2) (f_X4_vouch_mro mmi men mbY mlo mvo mho mro mba p0 p1 p2) (f_X4_vouch_mwe mmi men mbY mlo mvo mho mwe mba p0 p1 p2) (f_X4_vouch_mwi mmi men mbY mbg mlo mvo mho mwi mba p0 p1 p2) mba mkp mth msg mns (f_X4_vouch_mtw mmi men mbY mlo mvo mho mba p0 p1 p2)) := by
  refine v_ofi (cc := cX4_vouch) (nL := 5) (lv := [(0, .ref (am 0)), (1, .int p0), (2, .int p1), (3, .int p2)]) (by decide) rfl (Nat.le_of_ble_eq_true rfl) rfl ?_
  intro p e s m args below meth c A X hr
  refine v_iload_n (pc := 0) X dX4_vouch_0 1 rfl ?_
  refine v_e0S (pc := 1) (rest := []) (n := 1) X (c_X4_isPerson l G p0) gX4_vouch_X4_isPerson rfl rfl rfl (by decide +kernel) ⟨Nat.le_of_ble_eq_true rfl, Nat.le_of_ble_eq_true rfl⟩ dX4_vouch_1 rfl rfl (Nat.le_of_ble_eq_true rfl) ⟨Nat.le_of_ble_eq_true rfl, Nat.le_of_ble_eq_true rfl⟩ ?_
  refine v_if_eq (pc := 4) X 18 dX4_vouch_4 (by decide) (fun c_4 => ?_) (fun c_4 => ?_)
  · refine v_iconst (pc := 18) (v := 0) X dX4_vouch_18 (by decide) ?_
    refine v_istore (pc := 19) (lv' := [(0, .ref (am 0)), (1, .int p0), (2, .int p1), (3, .int p2), (4, .int 0)]) X dX4_vouch_19 (Nat.le_of_ble_eq_true rfl) [1, 2, 3, 4, 0] rfl ?_
    refine v_aload_n (pc := 21) X dX4_vouch_21 0 rfl ?_
    refine v_iload (pc := 22) X dX4_vouch_22 4 rfl ?_
    refine v_iload_n (pc := 24) X dX4_vouch_24 1 rfl ?_
    refine v_iload_n (pc := 25) X dX4_vouch_25 2 rfl ?_
    refine v_icmp_eq (pc := 26) X 43 dX4_vouch_26 (by decide) (fun c_26 => ?_) (fun c_26 => ?_)
    · refine v_iconst (pc := 43) (v := 0) X dX4_vouch_43 (by decide) ?_
      refine v_iload (pc := 44) X dX4_vouch_44 4 rfl ?_
      refine v_if_eq (pc := 46) X 70 dX4_vouch_46 (by decide) (fun c_46 => ?_) (fun c_46 => ?_)
      · refine v_iconst (pc := 70) (v := 0) X dX4_vouch_70 (by decide) ?_
        refine v_eV (pc := 71) (rest := []) (n := 3) (wr := ([] : va_W)) (wn := (wM G am mmi mwo mfa mre men mbY mbg mlo mnb mvo mho mro mwe mwi mba mkp mth msg mns (f_X4_goes_mtw 0 0 0))) (isC := [0, 1, 2, 3, 4, 5, 6, 7, 8, 9, 10, 11, 12, 13, 14, 15]) (isR := []) (isP := [0, 1, 2, 3, 4, 5, 6, 7, 8, 9, 10, 11, 12, 13, 14, 15]) X (c_X4_goes l G am mmi mwo mfa mre men mbY mbg mlo mnb mvo mho mro mwe mwi mba mkp mth msg mns mtw 0 0 0) gX4_vouch_X4_goes rfl rfl rfl (by decide +kernel) ⟨Nat.le_of_ble_eq_true rfl, Nat.le_of_ble_eq_true rfl⟩ dX4_vouch_71 rfl rfl (Nat.le_of_ble_eq_true rfl) ⟨Nat.le_of_ble_eq_true rfl, Nat.le_of_ble_eq_true rfl⟩ 0 rfl rfl ⟨rfl, rfl, rfl, rfl, by decide, rfl, rfl⟩ ?_
        refine v_if_ne (pc := 74) X 79 dX4_vouch_74 (by decide) (fun c_74 => ?_) (fun c_74 => ?_)
        · exact (go1 c_74 rfl).elim
        · refine v_iconst (pc := 77) (v := 0) X dX4_vouch_77 (by decide) ?_
          exact v_iret (pc := 78) X hr dX4_vouch_78 () (by show (wM G am mmi mwo mfa mre men mbY mbg mlo mnb mvo mho mro mwe mwi mba mkp mth msg mns (f_X4_goes_mtw 0 0 0)) = (wM G am mmi mwo mfa mre men (f_X4_vouch_mbY mmi men mbY mlo mvo mho mba p0 p1 p2) mbg mlo mnb (f_X4_vouch_mvo mmi men mbY mlo mvo mho mba p0 p1 p2) (f_X4_vouch_mho mmi men mbY mlo mvo mho mba p0 p1 p2) (f_X4_vouch_mro mmi men mbY mlo mvo mho mro mba p0 p1 p2) (f_X4_vouch_mwe mmi men mbY mlo mvo mho mwe mba p0 p1 p2) (f_X4_vouch_mwi mmi men mbY mbg mlo mvo mho mwi mba p0 p1 p2) mba mkp mth msg mns (f_X4_vouch_mtw mmi men mbY mlo mvo mho mba p0 p1 p2)); simp only [f_X4_vouch_mbY, f_X4_vouch_mvo, f_X4_vouch_mho, f_X4_vouch_mro, f_X4_vouch_mwe, f_X4_vouch_mwi, f_X4_vouch_mtw, if_pos c_4, if_pos c_26, if_pos c_46, if_pos c_74]) (by show 0 = (f_X4_vouch_r mmi men mbY mlo mvo mho mba p0 p1 p2); simp only [f_X4_vouch_r, if_pos c_4, if_pos c_26, if_pos c_46, if_pos c_74])
      · exact absurd c_46 (by decide)
    · refine v_iload_n (pc := 29) X dX4_vouch_29 3 rfl ?_
      refine v_iconst (pc := 30) (v := 1) X dX4_vouch_30 (by decide) ?_
      refine v_bipush (pc := 31) (v := 63) X dX4_vouch_31 (by decide) ?_
      refine v_e0S (pc := 33) (rest := [.int 0, .ref (am 0)]) (n := 3) X (c_X4_in l G p2 1 63) gX4_vouch_X4_in rfl rfl rfl (by decide +kernel) ⟨Nat.le_of_ble_eq_true rfl, Nat.le_of_ble_eq_true rfl⟩ dX4_vouch_33 rfl rfl (Nat.le_of_ble_eq_true rfl) ⟨Nat.le_of_ble_eq_true rfl, Nat.le_of_ble_eq_true rfl⟩ ?_
      refine v_if_eq (pc := 36) X 43 dX4_vouch_36 (by decide) (fun c_36 => ?_) (fun c_36 => ?_)
      · refine v_iconst (pc := 43) (v := 0) X dX4_vouch_43 (by decide) ?_
        refine v_iload (pc := 44) X dX4_vouch_44 4 rfl ?_
        refine v_if_eq (pc := 46) X 70 dX4_vouch_46 (by decide) (fun c_46 => ?_) (fun c_46 => ?_)
        · refine v_iconst (pc := 70) (v := 0) X dX4_vouch_70 (by decide) ?_
          refine v_eV (pc := 71) (rest := []) (n := 3) (wr := ([] : va_W)) (wn := (wM G am mmi mwo mfa mre men mbY mbg mlo mnb mvo mho mro mwe mwi mba mkp mth msg mns (f_X4_goes_mtw 0 0 0))) (isC := [0, 1, 2, 3, 4, 5, 6, 7, 8, 9, 10, 11, 12, 13, 14, 15]) (isR := []) (isP := [0, 1, 2, 3, 4, 5, 6, 7, 8, 9, 10, 11, 12, 13, 14, 15]) X (c_X4_goes l G am mmi mwo mfa mre men mbY mbg mlo mnb mvo mho mro mwe mwi mba mkp mth msg mns mtw 0 0 0) gX4_vouch_X4_goes rfl rfl rfl (by decide +kernel) ⟨Nat.le_of_ble_eq_true rfl, Nat.le_of_ble_eq_true rfl⟩ dX4_vouch_71 rfl rfl (Nat.le_of_ble_eq_true rfl) ⟨Nat.le_of_ble_eq_true rfl, Nat.le_of_ble_eq_true rfl⟩ 0 rfl rfl ⟨rfl, rfl, rfl, rfl, by decide, rfl, rfl⟩ ?_
          refine v_if_ne (pc := 74) X 79 dX4_vouch_74 (by decide) (fun c_74 => ?_) (fun c_74 => ?_)
          · exact (go1 c_74 rfl).elim
          · refine v_iconst (pc := 77) (v := 0) X dX4_vouch_77 (by decide) ?_
            exact v_iret (pc := 78) X hr dX4_vouch_78 () (by show (wM G am mmi mwo mfa mre men mbY mbg mlo mnb mvo mho mro mwe mwi mba mkp mth msg mns (f_X4_goes_mtw 0 0 0)) = (wM G am mmi mwo mfa mre men (f_X4_vouch_mbY mmi men mbY mlo mvo mho mba p0 p1 p2) mbg mlo mnb (f_X4_vouch_mvo mmi men mbY mlo mvo mho mba p0 p1 p2) (f_X4_vouch_mho mmi men mbY mlo mvo mho mba p0 p1 p2) (f_X4_vouch_mro mmi men mbY mlo mvo mho mro mba p0 p1 p2) (f_X4_vouch_mwe mmi men mbY mlo mvo mho mwe mba p0 p1 p2) (f_X4_vouch_mwi mmi men mbY mbg mlo mvo mho mwi mba p0 p1 p2) mba mkp mth msg mns (f_X4_vouch_mtw mmi men mbY mlo mvo mho mba p0 p1 p2)); simp only [f_X4_vouch_mbY, f_X4_vouch_mvo, f_X4_vouch_mho, f_X4_vouch_mro, f_X4_vouch_mwe, f_X4_vouch_mwi, f_X4_vouch_mtw, if_pos c_4, if_neg c_26, if_pos c_36, if_pos c_46, if_pos c_74]) (by show 0 = (f_X4_vouch_r mmi men mbY mlo mvo mho mba p0 p1 p2); simp only [f_X4_vouch_r, if_pos c_4, if_neg c_26, if_pos c_36, if_pos c_46, if_pos c_74])
        · exact absurd c_46 (by decide)
      · refine v_iconst (pc := 39) (v := 1) X dX4_vouch_39 (by decide) ?_
        refine v_goto (pc := 40) X 44 dX4_vouch_40 (by decide) ?_
        refine v_iload (pc := 44) X dX4_vouch_44 4 rfl ?_
        refine v_if_eq (pc := 46) X 70 dX4_vouch_46 (by decide) (fun c_46 => ?_) (fun c_46 => ?_)
        · refine v_iconst (pc := 70) (v := 0) X dX4_vouch_70 (by decide) ?_
          refine v_eV (pc := 71) (rest := []) (n := 3) (wr := ([] : va_W)) (wn := (wM G am mmi mwo mfa mre men mbY mbg mlo mnb mvo mho mro mwe mwi mba mkp mth msg mns (f_X4_goes_mtw 0 1 0))) (isC := [0, 1, 2, 3, 4, 5, 6, 7, 8, 9, 10, 11, 12, 13, 14, 15]) (isR := []) (isP := [0, 1, 2, 3, 4, 5, 6, 7, 8, 9, 10, 11, 12, 13, 14, 15]) X (c_X4_goes l G am mmi mwo mfa mre men mbY mbg mlo mnb mvo mho mro mwe mwi mba mkp mth msg mns mtw 0 1 0) gX4_vouch_X4_goes rfl rfl rfl (by decide +kernel) ⟨Nat.le_of_ble_eq_true rfl, Nat.le_of_ble_eq_true rfl⟩ dX4_vouch_71 rfl rfl (Nat.le_of_ble_eq_true rfl) ⟨Nat.le_of_ble_eq_true rfl, Nat.le_of_ble_eq_true rfl⟩ 0 rfl rfl ⟨rfl, rfl, rfl, rfl, by decide, rfl, rfl⟩ ?_
          refine v_if_ne (pc := 74) X 79 dX4_vouch_74 (by decide) (fun c_74 => ?_) (fun c_74 => ?_)
          · exact (go1 c_74 rfl).elim
          · refine v_iconst (pc := 77) (v := 0) X dX4_vouch_77 (by decide) ?_
            exact v_iret (pc := 78) X hr dX4_vouch_78 () (by show (wM G am mmi mwo mfa mre men mbY mbg mlo mnb mvo mho mro mwe mwi mba mkp mth msg mns (f_X4_goes_mtw 0 1 0)) = (wM G am mmi mwo mfa mre men (f_X4_vouch_mbY mmi men mbY mlo mvo mho mba p0 p1 p2) mbg mlo mnb (f_X4_vouch_mvo mmi men mbY mlo mvo mho mba p0 p1 p2) (f_X4_vouch_mho mmi men mbY mlo mvo mho mba p0 p1 p2) (f_X4_vouch_mro mmi men mbY mlo mvo mho mro mba p0 p1 p2) (f_X4_vouch_mwe mmi men mbY mlo mvo mho mwe mba p0 p1 p2) (f_X4_vouch_mwi mmi men mbY mbg mlo mvo mho mwi mba p0 p1 p2) mba mkp mth msg mns (f_X4_vouch_mtw mmi men mbY mlo mvo mho mba p0 p1 p2)); simp only [f_X4_vouch_mbY, f_X4_vouch_mvo, f_X4_vouch_mho, f_X4_vouch_mro, f_X4_vouch_mwe, f_X4_vouch_mwi, f_X4_vouch_mtw, if_pos c_4, if_neg c_26, if_neg c_36, if_pos c_46, if_pos c_74]) (by show 0 = (f_X4_vouch_r mmi men mbY mlo mvo mho mba p0 p1 p2); simp only [f_X4_vouch_r, if_pos c_4, if_neg c_26, if_neg c_36, if_pos c_46, if_pos c_74])
        · exact absurd c_46 (by decide)
  · refine v_iload_n (pc := 7) X dX4_vouch_7 2 rfl ?_
    refine v_e0S (pc := 8) (rest := []) (n := 1) X (c_X4_isGuest l G p1) gX4_vouch_X4_isGuest rfl rfl rfl (by decide +kernel) ⟨Nat.le_of_ble_eq_true rfl, Nat.le_of_ble_eq_true rfl⟩ dX4_vouch_8 rfl rfl (Nat.le_of_ble_eq_true rfl) ⟨Nat.le_of_ble_eq_true rfl, Nat.le_of_ble_eq_true rfl⟩ ?_
    refine v_if_eq (pc := 11) X 18 dX4_vouch_11 (by decide) (fun c_11 => ?_) (fun c_11 => ?_)
    · refine v_iconst (pc := 18) (v := 0) X dX4_vouch_18 (by decide) ?_
      refine v_istore (pc := 19) (lv' := [(0, .ref (am 0)), (1, .int p0), (2, .int p1), (3, .int p2), (4, .int 0)]) X dX4_vouch_19 (Nat.le_of_ble_eq_true rfl) [1, 2, 3, 4, 0] rfl ?_
      refine v_aload_n (pc := 21) X dX4_vouch_21 0 rfl ?_
      refine v_iload (pc := 22) X dX4_vouch_22 4 rfl ?_
      refine v_iload_n (pc := 24) X dX4_vouch_24 1 rfl ?_
      refine v_iload_n (pc := 25) X dX4_vouch_25 2 rfl ?_
      refine v_icmp_eq (pc := 26) X 43 dX4_vouch_26 (by decide) (fun c_26 => ?_) (fun c_26 => ?_)
      · refine v_iconst (pc := 43) (v := 0) X dX4_vouch_43 (by decide) ?_
        refine v_iload (pc := 44) X dX4_vouch_44 4 rfl ?_
        refine v_if_eq (pc := 46) X 70 dX4_vouch_46 (by decide) (fun c_46 => ?_) (fun c_46 => ?_)
        · refine v_iconst (pc := 70) (v := 0) X dX4_vouch_70 (by decide) ?_
          refine v_eV (pc := 71) (rest := []) (n := 3) (wr := ([] : va_W)) (wn := (wM G am mmi mwo mfa mre men mbY mbg mlo mnb mvo mho mro mwe mwi mba mkp mth msg mns (f_X4_goes_mtw 0 0 0))) (isC := [0, 1, 2, 3, 4, 5, 6, 7, 8, 9, 10, 11, 12, 13, 14, 15]) (isR := []) (isP := [0, 1, 2, 3, 4, 5, 6, 7, 8, 9, 10, 11, 12, 13, 14, 15]) X (c_X4_goes l G am mmi mwo mfa mre men mbY mbg mlo mnb mvo mho mro mwe mwi mba mkp mth msg mns mtw 0 0 0) gX4_vouch_X4_goes rfl rfl rfl (by decide +kernel) ⟨Nat.le_of_ble_eq_true rfl, Nat.le_of_ble_eq_true rfl⟩ dX4_vouch_71 rfl rfl (Nat.le_of_ble_eq_true rfl) ⟨Nat.le_of_ble_eq_true rfl, Nat.le_of_ble_eq_true rfl⟩ 0 rfl rfl ⟨rfl, rfl, rfl, rfl, by decide, rfl, rfl⟩ ?_
          refine v_if_ne (pc := 74) X 79 dX4_vouch_74 (by decide) (fun c_74 => ?_) (fun c_74 => ?_)
          · exact (go1 c_74 rfl).elim
          · refine v_iconst (pc := 77) (v := 0) X dX4_vouch_77 (by decide) ?_
            exact v_iret (pc := 78) X hr dX4_vouch_78 () (by show (wM G am mmi mwo mfa mre men mbY mbg mlo mnb mvo mho mro mwe mwi mba mkp mth msg mns (f_X4_goes_mtw 0 0 0)) = (wM G am mmi mwo mfa mre men (f_X4_vouch_mbY mmi men mbY mlo mvo mho mba p0 p1 p2) mbg mlo mnb (f_X4_vouch_mvo mmi men mbY mlo mvo mho mba p0 p1 p2) (f_X4_vouch_mho mmi men mbY mlo mvo mho mba p0 p1 p2) (f_X4_vouch_mro mmi men mbY mlo mvo mho mro mba p0 p1 p2) (f_X4_vouch_mwe mmi men mbY mlo mvo mho mwe mba p0 p1 p2) (f_X4_vouch_mwi mmi men mbY mbg mlo mvo mho mwi mba p0 p1 p2) mba mkp mth msg mns (f_X4_vouch_mtw mmi men mbY mlo mvo mho mba p0 p1 p2)); simp only [f_X4_vouch_mbY, f_X4_vouch_mvo, f_X4_vouch_mho, f_X4_vouch_mro, f_X4_vouch_mwe, f_X4_vouch_mwi, f_X4_vouch_mtw, if_neg c_4, if_pos c_11, if_pos c_26, if_pos c_46, if_pos c_74]) (by show 0 = (f_X4_vouch_r mmi men mbY mlo mvo mho mba p0 p1 p2); simp only [f_X4_vouch_r, if_neg c_4, if_pos c_11, if_pos c_26, if_pos c_46, if_pos c_74])
        · exact absurd c_46 (by decide)
      · refine v_iload_n (pc := 29) X dX4_vouch_29 3 rfl ?_
        refine v_iconst (pc := 30) (v := 1) X dX4_vouch_30 (by decide) ?_
        refine v_bipush (pc := 31) (v := 63) X dX4_vouch_31 (by decide) ?_
        refine v_e0S (pc := 33) (rest := [.int 0, .ref (am 0)]) (n := 3) X (c_X4_in l G p2 1 63) gX4_vouch_X4_in rfl rfl rfl (by decide +kernel) ⟨Nat.le_of_ble_eq_true rfl, Nat.le_of_ble_eq_true rfl⟩ dX4_vouch_33 rfl rfl (Nat.le_of_ble_eq_true rfl) ⟨Nat.le_of_ble_eq_true rfl, Nat.le_of_ble_eq_true rfl⟩ ?_
        refine v_if_eq (pc := 36) X 43 dX4_vouch_36 (by decide) (fun c_36 => ?_) (fun c_36 => ?_)
        · refine v_iconst (pc := 43) (v := 0) X dX4_vouch_43 (by decide) ?_
          refine v_iload (pc := 44) X dX4_vouch_44 4 rfl ?_
          refine v_if_eq (pc := 46) X 70 dX4_vouch_46 (by decide) (fun c_46 => ?_) (fun c_46 => ?_)
          · refine v_iconst (pc := 70) (v := 0) X dX4_vouch_70 (by decide) ?_
            refine v_eV (pc := 71) (rest := []) (n := 3) (wr := ([] : va_W)) (wn := (wM G am mmi mwo mfa mre men mbY mbg mlo mnb mvo mho mro mwe mwi mba mkp mth msg mns (f_X4_goes_mtw 0 0 0))) (isC := [0, 1, 2, 3, 4, 5, 6, 7, 8, 9, 10, 11, 12, 13, 14, 15]) (isR := []) (isP := [0, 1, 2, 3, 4, 5, 6, 7, 8, 9, 10, 11, 12, 13, 14, 15]) X (c_X4_goes l G am mmi mwo mfa mre men mbY mbg mlo mnb mvo mho mro mwe mwi mba mkp mth msg mns mtw 0 0 0) gX4_vouch_X4_goes rfl rfl rfl (by decide +kernel) ⟨Nat.le_of_ble_eq_true rfl, Nat.le_of_ble_eq_true rfl⟩ dX4_vouch_71 rfl rfl (Nat.le_of_ble_eq_true rfl) ⟨Nat.le_of_ble_eq_true rfl, Nat.le_of_ble_eq_true rfl⟩ 0 rfl rfl ⟨rfl, rfl, rfl, rfl, by decide, rfl, rfl⟩ ?_
            refine v_if_ne (pc := 74) X 79 dX4_vouch_74 (by decide) (fun c_74 => ?_) (fun c_74 => ?_)
            · exact (go1 c_74 rfl).elim
            · refine v_iconst (pc := 77) (v := 0) X dX4_vouch_77 (by decide) ?_
              exact v_iret (pc := 78) X hr dX4_vouch_78 () (by show (wM G am mmi mwo mfa mre men mbY mbg mlo mnb mvo mho mro mwe mwi mba mkp mth msg mns (f_X4_goes_mtw 0 0 0)) = (wM G am mmi mwo mfa mre men (f_X4_vouch_mbY mmi men mbY mlo mvo mho mba p0 p1 p2) mbg mlo mnb (f_X4_vouch_mvo mmi men mbY mlo mvo mho mba p0 p1 p2) (f_X4_vouch_mho mmi men mbY mlo mvo mho mba p0 p1 p2) (f_X4_vouch_mro mmi men mbY mlo mvo mho mro mba p0 p1 p2) (f_X4_vouch_mwe mmi men mbY mlo mvo mho mwe mba p0 p1 p2) (f_X4_vouch_mwi mmi men mbY mbg mlo mvo mho mwi mba p0 p1 p2) mba mkp mth msg mns (f_X4_vouch_mtw mmi men mbY mlo mvo mho mba p0 p1 p2)); simp only [f_X4_vouch_mbY, f_X4_vouch_mvo, f_X4_vouch_mho, f_X4_vouch_mro, f_X4_vouch_mwe, f_X4_vouch_mwi, f_X4_vouch_mtw, if_neg c_4, if_pos c_11, if_neg c_26, if_pos c_36, if_pos c_46, if_pos c_74]) (by show 0 = (f_X4_vouch_r mmi men mbY mlo mvo mho mba p0 p1 p2); simp only [f_X4_vouch_r, if_neg c_4, if_pos c_11, if_neg c_26, if_pos c_36, if_pos c_46, if_pos c_74])
          · exact absurd c_46 (by decide)
        · refine v_iconst (pc := 39) (v := 1) X dX4_vouch_39 (by decide) ?_
          refine v_goto (pc := 40) X 44 dX4_vouch_40 (by decide) ?_
          refine v_iload (pc := 44) X dX4_vouch_44 4 rfl ?_
          refine v_if_eq (pc := 46) X 70 dX4_vouch_46 (by decide) (fun c_46 => ?_) (fun c_46 => ?_)
          · refine v_iconst (pc := 70) (v := 0) X dX4_vouch_70 (by decide) ?_
            refine v_eV (pc := 71) (rest := []) (n := 3) (wr := ([] : va_W)) (wn := (wM G am mmi mwo mfa mre men mbY mbg mlo mnb mvo mho mro mwe mwi mba mkp mth msg mns (f_X4_goes_mtw 0 1 0))) (isC := [0, 1, 2, 3, 4, 5, 6, 7, 8, 9, 10, 11, 12, 13, 14, 15]) (isR := []) (isP := [0, 1, 2, 3, 4, 5, 6, 7, 8, 9, 10, 11, 12, 13, 14, 15]) X (c_X4_goes l G am mmi mwo mfa mre men mbY mbg mlo mnb mvo mho mro mwe mwi mba mkp mth msg mns mtw 0 1 0) gX4_vouch_X4_goes rfl rfl rfl (by decide +kernel) ⟨Nat.le_of_ble_eq_true rfl, Nat.le_of_ble_eq_true rfl⟩ dX4_vouch_71 rfl rfl (Nat.le_of_ble_eq_true rfl) ⟨Nat.le_of_ble_eq_true rfl, Nat.le_of_ble_eq_true rfl⟩ 0 rfl rfl ⟨rfl, rfl, rfl, rfl, by decide, rfl, rfl⟩ ?_
            refine v_if_ne (pc := 74) X 79 dX4_vouch_74 (by decide) (fun c_74 => ?_) (fun c_74 => ?_)
            · exact (go1 c_74 rfl).elim
            · refine v_iconst (pc := 77) (v := 0) X dX4_vouch_77 (by decide) ?_
              exact v_iret (pc := 78) X hr dX4_vouch_78 () (by show (wM G am mmi mwo mfa mre men mbY mbg mlo mnb mvo mho mro mwe mwi mba mkp mth msg mns (f_X4_goes_mtw 0 1 0)) = (wM G am mmi mwo mfa mre men (f_X4_vouch_mbY mmi men mbY mlo mvo mho mba p0 p1 p2) mbg mlo mnb (f_X4_vouch_mvo mmi men mbY mlo mvo mho mba p0 p1 p2) (f_X4_vouch_mho mmi men mbY mlo mvo mho mba p0 p1 p2) (f_X4_vouch_mro mmi men mbY mlo mvo mho mro mba p0 p1 p2) (f_X4_vouch_mwe mmi men mbY mlo mvo mho mwe mba p0 p1 p2) (f_X4_vouch_mwi mmi men mbY mbg mlo mvo mho mwi mba p0 p1 p2) mba mkp mth msg mns (f_X4_vouch_mtw mmi men mbY mlo mvo mho mba p0 p1 p2)); simp only [f_X4_vouch_mbY, f_X4_vouch_mvo, f_X4_vouch_mho, f_X4_vouch_mro, f_X4_vouch_mwe, f_X4_vouch_mwi, f_X4_vouch_mtw, if_neg c_4, if_pos c_11, if_neg c_26, if_neg c_36, if_pos c_46, if_pos c_74]) (by show 0 = (f_X4_vouch_r mmi men mbY mlo mvo mho mba p0 p1 p2); simp only [f_X4_vouch_r, if_neg c_4, if_pos c_11, if_neg c_26, if_neg c_36, if_pos c_46, if_pos c_74])
          · exact absurd c_46 (by decide)
    · refine v_iconst (pc := 14) (v := 1) X dX4_vouch_14 (by decide) ?_
      refine v_goto (pc := 15) X 19 dX4_vouch_15 (by decide) ?_
      refine v_istore (pc := 19) (lv' := [(0, .ref (am 0)), (1, .int p0), (2, .int p1), (3, .int p2), (4, .int 1)]) X dX4_vouch_19 (Nat.le_of_ble_eq_true rfl) [1, 2, 3, 4, 0] rfl ?_
      refine v_aload_n (pc := 21) X dX4_vouch_21 0 rfl ?_
      refine v_iload (pc := 22) X dX4_vouch_22 4 rfl ?_
      refine v_iload_n (pc := 24) X dX4_vouch_24 1 rfl ?_
      refine v_iload_n (pc := 25) X dX4_vouch_25 2 rfl ?_
      refine v_icmp_eq (pc := 26) X 43 dX4_vouch_26 (by decide) (fun c_26 => ?_) (fun c_26 => ?_)
      · refine v_iconst (pc := 43) (v := 0) X dX4_vouch_43 (by decide) ?_
        refine v_iload (pc := 44) X dX4_vouch_44 4 rfl ?_
        refine v_if_eq (pc := 46) X 70 dX4_vouch_46 (by decide) (fun c_46 => ?_) (fun c_46 => ?_)
        · exact absurd c_46 (by decide)
        · have pin : vp_in p0 12 := mper_in c_4
          refine v_aload_n (pc := 49) X dX4_vouch_49 0 rfl ?_
          refine v_iload_n (pc := 50) X dX4_vouch_50 1 rfl ?_
          refine v_eV (pc := 51) (rest := [.int 0, .int 1, .ref (am 0)]) (n := 1) (wr := ([] : va_W)) (wn := (wM G am mmi mwo mfa mre men mbY mbg mlo mnb mvo mho mro mwe mwi mba mkp mth msg mns mtw)) (isC := [0, 1, 2, 3, 4, 5, 6, 7, 8, 9, 10, 11, 12, 13, 14, 15]) (isR := []) (isP := [0, 1, 2, 3, 4, 5, 6, 7, 8, 9, 10, 11, 12, 13, 14, 15]) X (c_X4_canVouch l G am mmi mwo mfa mre men mbY mbg mlo mnb mvo mho mro mwe mwi mba mkp mth msg mns mtw p0 pin hby hho hlo) gX4_vouch_X4_canVouch rfl rfl rfl (by decide +kernel) ⟨Nat.le_of_ble_eq_true rfl, Nat.le_of_ble_eq_true rfl⟩ dX4_vouch_51 rfl rfl (Nat.le_of_ble_eq_true rfl) ⟨Nat.le_of_ble_eq_true rfl, Nat.le_of_ble_eq_true rfl⟩ 0 rfl rfl ⟨rfl, rfl, rfl, rfl, by decide, rfl, rfl⟩ ?_
          refine v_if_eq (pc := 54) X 70 dX4_vouch_54 (by decide) (fun c_54 => ?_) (fun c_54 => ?_)
          · refine v_iconst (pc := 70) (v := 0) X dX4_vouch_70 (by decide) ?_
            refine v_eV (pc := 71) (rest := []) (n := 3) (wr := ([] : va_W)) (wn := (wM G am mmi mwo mfa mre men mbY mbg mlo mnb mvo mho mro mwe mwi mba mkp mth msg mns (f_X4_goes_mtw 1 0 0))) (isC := [0, 1, 2, 3, 4, 5, 6, 7, 8, 9, 10, 11, 12, 13, 14, 15]) (isR := []) (isP := [0, 1, 2, 3, 4, 5, 6, 7, 8, 9, 10, 11, 12, 13, 14, 15]) X (c_X4_goes l G am mmi mwo mfa mre men mbY mbg mlo mnb mvo mho mro mwe mwi mba mkp mth msg mns mtw 1 0 0) gX4_vouch_X4_goes rfl rfl rfl (by decide +kernel) ⟨Nat.le_of_ble_eq_true rfl, Nat.le_of_ble_eq_true rfl⟩ dX4_vouch_71 rfl rfl (Nat.le_of_ble_eq_true rfl) ⟨Nat.le_of_ble_eq_true rfl, Nat.le_of_ble_eq_true rfl⟩ 0 rfl rfl ⟨rfl, rfl, rfl, rfl, by decide, rfl, rfl⟩ ?_
            refine v_if_ne (pc := 74) X 79 dX4_vouch_74 (by decide) (fun c_74 => ?_) (fun c_74 => ?_)
            · exact (go2 c_74 rfl).elim
            · refine v_iconst (pc := 77) (v := 0) X dX4_vouch_77 (by decide) ?_
              exact v_iret (pc := 78) X hr dX4_vouch_78 () (by show (wM G am mmi mwo mfa mre men mbY mbg mlo mnb mvo mho mro mwe mwi mba mkp mth msg mns (f_X4_goes_mtw 1 0 0)) = (wM G am mmi mwo mfa mre men (f_X4_vouch_mbY mmi men mbY mlo mvo mho mba p0 p1 p2) mbg mlo mnb (f_X4_vouch_mvo mmi men mbY mlo mvo mho mba p0 p1 p2) (f_X4_vouch_mho mmi men mbY mlo mvo mho mba p0 p1 p2) (f_X4_vouch_mro mmi men mbY mlo mvo mho mro mba p0 p1 p2) (f_X4_vouch_mwe mmi men mbY mlo mvo mho mwe mba p0 p1 p2) (f_X4_vouch_mwi mmi men mbY mbg mlo mvo mho mwi mba p0 p1 p2) mba mkp mth msg mns (f_X4_vouch_mtw mmi men mbY mlo mvo mho mba p0 p1 p2)); simp only [f_X4_vouch_mbY, f_X4_vouch_mvo, f_X4_vouch_mho, f_X4_vouch_mro, f_X4_vouch_mwe, f_X4_vouch_mwi, f_X4_vouch_mtw, if_neg c_4, if_neg c_11, if_pos c_26, if_neg c_46, if_pos c_54, if_pos c_74]) (by show 0 = (f_X4_vouch_r mmi men mbY mlo mvo mho mba p0 p1 p2); simp only [f_X4_vouch_r, if_neg c_4, if_neg c_11, if_pos c_26, if_neg c_46, if_pos c_54, if_pos c_74])
          · refine v_aload_n (pc := 57) X dX4_vouch_57 0 rfl ?_
            refine v_get (pc := 58) (k := 9) (i := 1) X dX4_vouch_58 (fun _ h => List.mem_cons_of_mem _ (List.mem_append_right _ h)) 0 rfl rfl (Nat.le_of_ble_eq_true rfl) rfl rfl rfl ?_
            refine v_bipush (pc := 61) (v := 100) X dX4_vouch_61 (by decide) ?_
            refine v_icmp_ge (pc := 63) X 70 dX4_vouch_63 (by decide) (fun c_63 => ?_) (fun c_63 => ?_)
            · refine v_iconst (pc := 70) (v := 0) X dX4_vouch_70 (by decide) ?_
              refine v_eV (pc := 71) (rest := []) (n := 3) (wr := ([] : va_W)) (wn := (wM G am mmi mwo mfa mre men mbY mbg mlo mnb mvo mho mro mwe mwi mba mkp mth msg mns (f_X4_goes_mtw 1 0 0))) (isC := [0, 1, 2, 3, 4, 5, 6, 7, 8, 9, 10, 11, 12, 13, 14, 15]) (isR := []) (isP := [0, 1, 2, 3, 4, 5, 6, 7, 8, 9, 10, 11, 12, 13, 14, 15]) X (c_X4_goes l G am mmi mwo mfa mre men mbY mbg mlo mnb mvo mho mro mwe mwi mba mkp mth msg mns mtw 1 0 0) gX4_vouch_X4_goes rfl rfl rfl (by decide +kernel) ⟨Nat.le_of_ble_eq_true rfl, Nat.le_of_ble_eq_true rfl⟩ dX4_vouch_71 rfl rfl (Nat.le_of_ble_eq_true rfl) ⟨Nat.le_of_ble_eq_true rfl, Nat.le_of_ble_eq_true rfl⟩ 0 rfl rfl ⟨rfl, rfl, rfl, rfl, by decide, rfl, rfl⟩ ?_
              refine v_if_ne (pc := 74) X 79 dX4_vouch_74 (by decide) (fun c_74 => ?_) (fun c_74 => ?_)
              · exact (go2 c_74 rfl).elim
              · refine v_iconst (pc := 77) (v := 0) X dX4_vouch_77 (by decide) ?_
                exact v_iret (pc := 78) X hr dX4_vouch_78 () (by show (wM G am mmi mwo mfa mre men mbY mbg mlo mnb mvo mho mro mwe mwi mba mkp mth msg mns (f_X4_goes_mtw 1 0 0)) = (wM G am mmi mwo mfa mre men (f_X4_vouch_mbY mmi men mbY mlo mvo mho mba p0 p1 p2) mbg mlo mnb (f_X4_vouch_mvo mmi men mbY mlo mvo mho mba p0 p1 p2) (f_X4_vouch_mho mmi men mbY mlo mvo mho mba p0 p1 p2) (f_X4_vouch_mro mmi men mbY mlo mvo mho mro mba p0 p1 p2) (f_X4_vouch_mwe mmi men mbY mlo mvo mho mwe mba p0 p1 p2) (f_X4_vouch_mwi mmi men mbY mbg mlo mvo mho mwi mba p0 p1 p2) mba mkp mth msg mns (f_X4_vouch_mtw mmi men mbY mlo mvo mho mba p0 p1 p2)); simp only [f_X4_vouch_mbY, f_X4_vouch_mvo, f_X4_vouch_mho, f_X4_vouch_mro, f_X4_vouch_mwe, f_X4_vouch_mwi, f_X4_vouch_mtw, if_neg c_4, if_neg c_11, if_pos c_26, if_neg c_46, if_neg c_54, if_pos c_63, if_pos c_74]) (by show 0 = (f_X4_vouch_r mmi men mbY mlo mvo mho mba p0 p1 p2); simp only [f_X4_vouch_r, if_neg c_4, if_neg c_11, if_pos c_26, if_neg c_46, if_neg c_54, if_pos c_63, if_pos c_74])
            · refine v_iconst (pc := 66) (v := 1) X dX4_vouch_66 (by decide) ?_
              refine v_goto (pc := 67) X 71 dX4_vouch_67 (by decide) ?_
              refine v_eV (pc := 71) (rest := []) (n := 3) (wr := ([] : va_W)) (wn := (wM G am mmi mwo mfa mre men mbY mbg mlo mnb mvo mho mro mwe mwi mba mkp mth msg mns (f_X4_goes_mtw 1 0 1))) (isC := [0, 1, 2, 3, 4, 5, 6, 7, 8, 9, 10, 11, 12, 13, 14, 15]) (isR := []) (isP := [0, 1, 2, 3, 4, 5, 6, 7, 8, 9, 10, 11, 12, 13, 14, 15]) X (c_X4_goes l G am mmi mwo mfa mre men mbY mbg mlo mnb mvo mho mro mwe mwi mba mkp mth msg mns mtw 1 0 1) gX4_vouch_X4_goes rfl rfl rfl (by decide +kernel) ⟨Nat.le_of_ble_eq_true rfl, Nat.le_of_ble_eq_true rfl⟩ dX4_vouch_71 rfl rfl (Nat.le_of_ble_eq_true rfl) ⟨Nat.le_of_ble_eq_true rfl, Nat.le_of_ble_eq_true rfl⟩ 0 rfl rfl ⟨rfl, rfl, rfl, rfl, by decide, rfl, rfl⟩ ?_
              refine v_if_ne (pc := 74) X 79 dX4_vouch_74 (by decide) (fun c_74 => ?_) (fun c_74 => ?_)
              · exact (go2 c_74 rfl).elim
              · refine v_iconst (pc := 77) (v := 0) X dX4_vouch_77 (by decide) ?_
                exact v_iret (pc := 78) X hr dX4_vouch_78 () (by show (wM G am mmi mwo mfa mre men mbY mbg mlo mnb mvo mho mro mwe mwi mba mkp mth msg mns (f_X4_goes_mtw 1 0 1)) = (wM G am mmi mwo mfa mre men (f_X4_vouch_mbY mmi men mbY mlo mvo mho mba p0 p1 p2) mbg mlo mnb (f_X4_vouch_mvo mmi men mbY mlo mvo mho mba p0 p1 p2) (f_X4_vouch_mho mmi men mbY mlo mvo mho mba p0 p1 p2) (f_X4_vouch_mro mmi men mbY mlo mvo mho mro mba p0 p1 p2) (f_X4_vouch_mwe mmi men mbY mlo mvo mho mwe mba p0 p1 p2) (f_X4_vouch_mwi mmi men mbY mbg mlo mvo mho mwi mba p0 p1 p2) mba mkp mth msg mns (f_X4_vouch_mtw mmi men mbY mlo mvo mho mba p0 p1 p2)); simp only [f_X4_vouch_mbY, f_X4_vouch_mvo, f_X4_vouch_mho, f_X4_vouch_mro, f_X4_vouch_mwe, f_X4_vouch_mwi, f_X4_vouch_mtw, if_neg c_4, if_neg c_11, if_pos c_26, if_neg c_46, if_neg c_54, if_neg c_63, if_pos c_74]) (by show 0 = (f_X4_vouch_r mmi men mbY mlo mvo mho mba p0 p1 p2); simp only [f_X4_vouch_r, if_neg c_4, if_neg c_11, if_pos c_26, if_neg c_46, if_neg c_54, if_neg c_63, if_pos c_74])
      · refine v_iload_n (pc := 29) X dX4_vouch_29 3 rfl ?_
        refine v_iconst (pc := 30) (v := 1) X dX4_vouch_30 (by decide) ?_
        refine v_bipush (pc := 31) (v := 63) X dX4_vouch_31 (by decide) ?_
        refine v_e0S (pc := 33) (rest := [.int 1, .ref (am 0)]) (n := 3) X (c_X4_in l G p2 1 63) gX4_vouch_X4_in rfl rfl rfl (by decide +kernel) ⟨Nat.le_of_ble_eq_true rfl, Nat.le_of_ble_eq_true rfl⟩ dX4_vouch_33 rfl rfl (Nat.le_of_ble_eq_true rfl) ⟨Nat.le_of_ble_eq_true rfl, Nat.le_of_ble_eq_true rfl⟩ ?_
        refine v_if_eq (pc := 36) X 43 dX4_vouch_36 (by decide) (fun c_36 => ?_) (fun c_36 => ?_)
        · refine v_iconst (pc := 43) (v := 0) X dX4_vouch_43 (by decide) ?_
          refine v_iload (pc := 44) X dX4_vouch_44 4 rfl ?_
          refine v_if_eq (pc := 46) X 70 dX4_vouch_46 (by decide) (fun c_46 => ?_) (fun c_46 => ?_)
          · exact absurd c_46 (by decide)
          · have pin : vp_in p0 12 := mper_in c_4
            refine v_aload_n (pc := 49) X dX4_vouch_49 0 rfl ?_
            refine v_iload_n (pc := 50) X dX4_vouch_50 1 rfl ?_
            refine v_eV (pc := 51) (rest := [.int 0, .int 1, .ref (am 0)]) (n := 1) (wr := ([] : va_W)) (wn := (wM G am mmi mwo mfa mre men mbY mbg mlo mnb mvo mho mro mwe mwi mba mkp mth msg mns mtw)) (isC := [0, 1, 2, 3, 4, 5, 6, 7, 8, 9, 10, 11, 12, 13, 14, 15]) (isR := []) (isP := [0, 1, 2, 3, 4, 5, 6, 7, 8, 9, 10, 11, 12, 13, 14, 15]) X (c_X4_canVouch l G am mmi mwo mfa mre men mbY mbg mlo mnb mvo mho mro mwe mwi mba mkp mth msg mns mtw p0 pin hby hho hlo) gX4_vouch_X4_canVouch rfl rfl rfl (by decide +kernel) ⟨Nat.le_of_ble_eq_true rfl, Nat.le_of_ble_eq_true rfl⟩ dX4_vouch_51 rfl rfl (Nat.le_of_ble_eq_true rfl) ⟨Nat.le_of_ble_eq_true rfl, Nat.le_of_ble_eq_true rfl⟩ 0 rfl rfl ⟨rfl, rfl, rfl, rfl, by decide, rfl, rfl⟩ ?_
            refine v_if_eq (pc := 54) X 70 dX4_vouch_54 (by decide) (fun c_54 => ?_) (fun c_54 => ?_)
            · refine v_iconst (pc := 70) (v := 0) X dX4_vouch_70 (by decide) ?_
              refine v_eV (pc := 71) (rest := []) (n := 3) (wr := ([] : va_W)) (wn := (wM G am mmi mwo mfa mre men mbY mbg mlo mnb mvo mho mro mwe mwi mba mkp mth msg mns (f_X4_goes_mtw 1 0 0))) (isC := [0, 1, 2, 3, 4, 5, 6, 7, 8, 9, 10, 11, 12, 13, 14, 15]) (isR := []) (isP := [0, 1, 2, 3, 4, 5, 6, 7, 8, 9, 10, 11, 12, 13, 14, 15]) X (c_X4_goes l G am mmi mwo mfa mre men mbY mbg mlo mnb mvo mho mro mwe mwi mba mkp mth msg mns mtw 1 0 0) gX4_vouch_X4_goes rfl rfl rfl (by decide +kernel) ⟨Nat.le_of_ble_eq_true rfl, Nat.le_of_ble_eq_true rfl⟩ dX4_vouch_71 rfl rfl (Nat.le_of_ble_eq_true rfl) ⟨Nat.le_of_ble_eq_true rfl, Nat.le_of_ble_eq_true rfl⟩ 0 rfl rfl ⟨rfl, rfl, rfl, rfl, by decide, rfl, rfl⟩ ?_
              refine v_if_ne (pc := 74) X 79 dX4_vouch_74 (by decide) (fun c_74 => ?_) (fun c_74 => ?_)
              · exact (go2 c_74 rfl).elim
              · refine v_iconst (pc := 77) (v := 0) X dX4_vouch_77 (by decide) ?_
                exact v_iret (pc := 78) X hr dX4_vouch_78 () (by show (wM G am mmi mwo mfa mre men mbY mbg mlo mnb mvo mho mro mwe mwi mba mkp mth msg mns (f_X4_goes_mtw 1 0 0)) = (wM G am mmi mwo mfa mre men (f_X4_vouch_mbY mmi men mbY mlo mvo mho mba p0 p1 p2) mbg mlo mnb (f_X4_vouch_mvo mmi men mbY mlo mvo mho mba p0 p1 p2) (f_X4_vouch_mho mmi men mbY mlo mvo mho mba p0 p1 p2) (f_X4_vouch_mro mmi men mbY mlo mvo mho mro mba p0 p1 p2) (f_X4_vouch_mwe mmi men mbY mlo mvo mho mwe mba p0 p1 p2) (f_X4_vouch_mwi mmi men mbY mbg mlo mvo mho mwi mba p0 p1 p2) mba mkp mth msg mns (f_X4_vouch_mtw mmi men mbY mlo mvo mho mba p0 p1 p2)); simp only [f_X4_vouch_mbY, f_X4_vouch_mvo, f_X4_vouch_mho, f_X4_vouch_mro, f_X4_vouch_mwe, f_X4_vouch_mwi, f_X4_vouch_mtw, if_neg c_4, if_neg c_11, if_neg c_26, if_pos c_36, if_neg c_46, if_pos c_54, if_pos c_74]) (by show 0 = (f_X4_vouch_r mmi men mbY mlo mvo mho mba p0 p1 p2); simp only [f_X4_vouch_r, if_neg c_4, if_neg c_11, if_neg c_26, if_pos c_36, if_neg c_46, if_pos c_54, if_pos c_74])
            · refine v_aload_n (pc := 57) X dX4_vouch_57 0 rfl ?_
              refine v_get (pc := 58) (k := 9) (i := 1) X dX4_vouch_58 (fun _ h => List.mem_cons_of_mem _ (List.mem_append_right _ h)) 0 rfl rfl (Nat.le_of_ble_eq_true rfl) rfl rfl rfl ?_
              refine v_bipush (pc := 61) (v := 100) X dX4_vouch_61 (by decide) ?_
              refine v_icmp_ge (pc := 63) X 70 dX4_vouch_63 (by decide) (fun c_63 => ?_) (fun c_63 => ?_)
              · refine v_iconst (pc := 70) (v := 0) X dX4_vouch_70 (by decide) ?_
                refine v_eV (pc := 71) (rest := []) (n := 3) (wr := ([] : va_W)) (wn := (wM G am mmi mwo mfa mre men mbY mbg mlo mnb mvo mho mro mwe mwi mba mkp mth msg mns (f_X4_goes_mtw 1 0 0))) (isC := [0, 1, 2, 3, 4, 5, 6, 7, 8, 9, 10, 11, 12, 13, 14, 15]) (isR := []) (isP := [0, 1, 2, 3, 4, 5, 6, 7, 8, 9, 10, 11, 12, 13, 14, 15]) X (c_X4_goes l G am mmi mwo mfa mre men mbY mbg mlo mnb mvo mho mro mwe mwi mba mkp mth msg mns mtw 1 0 0) gX4_vouch_X4_goes rfl rfl rfl (by decide +kernel) ⟨Nat.le_of_ble_eq_true rfl, Nat.le_of_ble_eq_true rfl⟩ dX4_vouch_71 rfl rfl (Nat.le_of_ble_eq_true rfl) ⟨Nat.le_of_ble_eq_true rfl, Nat.le_of_ble_eq_true rfl⟩ 0 rfl rfl ⟨rfl, rfl, rfl, rfl, by decide, rfl, rfl⟩ ?_
                refine v_if_ne (pc := 74) X 79 dX4_vouch_74 (by decide) (fun c_74 => ?_) (fun c_74 => ?_)
                · exact (go2 c_74 rfl).elim
                · refine v_iconst (pc := 77) (v := 0) X dX4_vouch_77 (by decide) ?_
                  exact v_iret (pc := 78) X hr dX4_vouch_78 () (by show (wM G am mmi mwo mfa mre men mbY mbg mlo mnb mvo mho mro mwe mwi mba mkp mth msg mns (f_X4_goes_mtw 1 0 0)) = (wM G am mmi mwo mfa mre men (f_X4_vouch_mbY mmi men mbY mlo mvo mho mba p0 p1 p2) mbg mlo mnb (f_X4_vouch_mvo mmi men mbY mlo mvo mho mba p0 p1 p2) (f_X4_vouch_mho mmi men mbY mlo mvo mho mba p0 p1 p2) (f_X4_vouch_mro mmi men mbY mlo mvo mho mro mba p0 p1 p2) (f_X4_vouch_mwe mmi men mbY mlo mvo mho mwe mba p0 p1 p2) (f_X4_vouch_mwi mmi men mbY mbg mlo mvo mho mwi mba p0 p1 p2) mba mkp mth msg mns (f_X4_vouch_mtw mmi men mbY mlo mvo mho mba p0 p1 p2)); simp only [f_X4_vouch_mbY, f_X4_vouch_mvo, f_X4_vouch_mho, f_X4_vouch_mro, f_X4_vouch_mwe, f_X4_vouch_mwi, f_X4_vouch_mtw, if_neg c_4, if_neg c_11, if_neg c_26, if_pos c_36, if_neg c_46, if_neg c_54, if_pos c_63, if_pos c_74]) (by show 0 = (f_X4_vouch_r mmi men mbY mlo mvo mho mba p0 p1 p2); simp only [f_X4_vouch_r, if_neg c_4, if_neg c_11, if_neg c_26, if_pos c_36, if_neg c_46, if_neg c_54, if_pos c_63, if_pos c_74])
              · refine v_iconst (pc := 66) (v := 1) X dX4_vouch_66 (by decide) ?_
                refine v_goto (pc := 67) X 71 dX4_vouch_67 (by decide) ?_
                refine v_eV (pc := 71) (rest := []) (n := 3) (wr := ([] : va_W)) (wn := (wM G am mmi mwo mfa mre men mbY mbg mlo mnb mvo mho mro mwe mwi mba mkp mth msg mns (f_X4_goes_mtw 1 0 1))) (isC := [0, 1, 2, 3, 4, 5, 6, 7, 8, 9, 10, 11, 12, 13, 14, 15]) (isR := []) (isP := [0, 1, 2, 3, 4, 5, 6, 7, 8, 9, 10, 11, 12, 13, 14, 15]) X (c_X4_goes l G am mmi mwo mfa mre men mbY mbg mlo mnb mvo mho mro mwe mwi mba mkp mth msg mns mtw 1 0 1) gX4_vouch_X4_goes rfl rfl rfl (by decide +kernel) ⟨Nat.le_of_ble_eq_true rfl, Nat.le_of_ble_eq_true rfl⟩ dX4_vouch_71 rfl rfl (Nat.le_of_ble_eq_true rfl) ⟨Nat.le_of_ble_eq_true rfl, Nat.le_of_ble_eq_true rfl⟩ 0 rfl rfl ⟨rfl, rfl, rfl, rfl, by decide, rfl, rfl⟩ ?_
                refine v_if_ne (pc := 74) X 79 dX4_vouch_74 (by decide) (fun c_74 => ?_) (fun c_74 => ?_)
                · exact (go2 c_74 rfl).elim
                · refine v_iconst (pc := 77) (v := 0) X dX4_vouch_77 (by decide) ?_
                  exact v_iret (pc := 78) X hr dX4_vouch_78 () (by show (wM G am mmi mwo mfa mre men mbY mbg mlo mnb mvo mho mro mwe mwi mba mkp mth msg mns (f_X4_goes_mtw 1 0 1)) = (wM G am mmi mwo mfa mre men (f_X4_vouch_mbY mmi men mbY mlo mvo mho mba p0 p1 p2) mbg mlo mnb (f_X4_vouch_mvo mmi men mbY mlo mvo mho mba p0 p1 p2) (f_X4_vouch_mho mmi men mbY mlo mvo mho mba p0 p1 p2) (f_X4_vouch_mro mmi men mbY mlo mvo mho mro mba p0 p1 p2) (f_X4_vouch_mwe mmi men mbY mlo mvo mho mwe mba p0 p1 p2) (f_X4_vouch_mwi mmi men mbY mbg mlo mvo mho mwi mba p0 p1 p2) mba mkp mth msg mns (f_X4_vouch_mtw mmi men mbY mlo mvo mho mba p0 p1 p2)); simp only [f_X4_vouch_mbY, f_X4_vouch_mvo, f_X4_vouch_mho, f_X4_vouch_mro, f_X4_vouch_mwe, f_X4_vouch_mwi, f_X4_vouch_mtw, if_neg c_4, if_neg c_11, if_neg c_26, if_pos c_36, if_neg c_46, if_neg c_54, if_neg c_63, if_pos c_74]) (by show 0 = (f_X4_vouch_r mmi men mbY mlo mvo mho mba p0 p1 p2); simp only [f_X4_vouch_r, if_neg c_4, if_neg c_11, if_neg c_26, if_pos c_36, if_neg c_46, if_neg c_54, if_neg c_63, if_pos c_74])
        · refine v_iconst (pc := 39) (v := 1) X dX4_vouch_39 (by decide) ?_
          refine v_goto (pc := 40) X 44 dX4_vouch_40 (by decide) ?_
          refine v_iload (pc := 44) X dX4_vouch_44 4 rfl ?_
          refine v_if_eq (pc := 46) X 70 dX4_vouch_46 (by decide) (fun c_46 => ?_) (fun c_46 => ?_)
          · exact absurd c_46 (by decide)
          · have pin : vp_in p0 12 := mper_in c_4
            refine v_aload_n (pc := 49) X dX4_vouch_49 0 rfl ?_
            refine v_iload_n (pc := 50) X dX4_vouch_50 1 rfl ?_
            refine v_eV (pc := 51) (rest := [.int 1, .int 1, .ref (am 0)]) (n := 1) (wr := ([] : va_W)) (wn := (wM G am mmi mwo mfa mre men mbY mbg mlo mnb mvo mho mro mwe mwi mba mkp mth msg mns mtw)) (isC := [0, 1, 2, 3, 4, 5, 6, 7, 8, 9, 10, 11, 12, 13, 14, 15]) (isR := []) (isP := [0, 1, 2, 3, 4, 5, 6, 7, 8, 9, 10, 11, 12, 13, 14, 15]) X (c_X4_canVouch l G am mmi mwo mfa mre men mbY mbg mlo mnb mvo mho mro mwe mwi mba mkp mth msg mns mtw p0 pin hby hho hlo) gX4_vouch_X4_canVouch rfl rfl rfl (by decide +kernel) ⟨Nat.le_of_ble_eq_true rfl, Nat.le_of_ble_eq_true rfl⟩ dX4_vouch_51 rfl rfl (Nat.le_of_ble_eq_true rfl) ⟨Nat.le_of_ble_eq_true rfl, Nat.le_of_ble_eq_true rfl⟩ 0 rfl rfl ⟨rfl, rfl, rfl, rfl, by decide, rfl, rfl⟩ ?_
            refine v_if_eq (pc := 54) X 70 dX4_vouch_54 (by decide) (fun c_54 => ?_) (fun c_54 => ?_)
            · refine v_iconst (pc := 70) (v := 0) X dX4_vouch_70 (by decide) ?_
              refine v_eV (pc := 71) (rest := []) (n := 3) (wr := ([] : va_W)) (wn := (wM G am mmi mwo mfa mre men mbY mbg mlo mnb mvo mho mro mwe mwi mba mkp mth msg mns (f_X4_goes_mtw 1 1 0))) (isC := [0, 1, 2, 3, 4, 5, 6, 7, 8, 9, 10, 11, 12, 13, 14, 15]) (isR := []) (isP := [0, 1, 2, 3, 4, 5, 6, 7, 8, 9, 10, 11, 12, 13, 14, 15]) X (c_X4_goes l G am mmi mwo mfa mre men mbY mbg mlo mnb mvo mho mro mwe mwi mba mkp mth msg mns mtw 1 1 0) gX4_vouch_X4_goes rfl rfl rfl (by decide +kernel) ⟨Nat.le_of_ble_eq_true rfl, Nat.le_of_ble_eq_true rfl⟩ dX4_vouch_71 rfl rfl (Nat.le_of_ble_eq_true rfl) ⟨Nat.le_of_ble_eq_true rfl, Nat.le_of_ble_eq_true rfl⟩ 0 rfl rfl ⟨rfl, rfl, rfl, rfl, by decide, rfl, rfl⟩ ?_
              refine v_if_ne (pc := 74) X 79 dX4_vouch_74 (by decide) (fun c_74 => ?_) (fun c_74 => ?_)
              · exact (go3 c_74 rfl).elim
              · refine v_iconst (pc := 77) (v := 0) X dX4_vouch_77 (by decide) ?_
                exact v_iret (pc := 78) X hr dX4_vouch_78 () (by show (wM G am mmi mwo mfa mre men mbY mbg mlo mnb mvo mho mro mwe mwi mba mkp mth msg mns (f_X4_goes_mtw 1 1 0)) = (wM G am mmi mwo mfa mre men (f_X4_vouch_mbY mmi men mbY mlo mvo mho mba p0 p1 p2) mbg mlo mnb (f_X4_vouch_mvo mmi men mbY mlo mvo mho mba p0 p1 p2) (f_X4_vouch_mho mmi men mbY mlo mvo mho mba p0 p1 p2) (f_X4_vouch_mro mmi men mbY mlo mvo mho mro mba p0 p1 p2) (f_X4_vouch_mwe mmi men mbY mlo mvo mho mwe mba p0 p1 p2) (f_X4_vouch_mwi mmi men mbY mbg mlo mvo mho mwi mba p0 p1 p2) mba mkp mth msg mns (f_X4_vouch_mtw mmi men mbY mlo mvo mho mba p0 p1 p2)); simp only [f_X4_vouch_mbY, f_X4_vouch_mvo, f_X4_vouch_mho, f_X4_vouch_mro, f_X4_vouch_mwe, f_X4_vouch_mwi, f_X4_vouch_mtw, if_neg c_4, if_neg c_11, if_neg c_26, if_neg c_36, if_neg c_46, if_pos c_54, if_pos c_74]) (by show 0 = (f_X4_vouch_r mmi men mbY mlo mvo mho mba p0 p1 p2); simp only [f_X4_vouch_r, if_neg c_4, if_neg c_11, if_neg c_26, if_neg c_36, if_neg c_46, if_pos c_54, if_pos c_74])
            · refine v_aload_n (pc := 57) X dX4_vouch_57 0 rfl ?_
              refine v_get (pc := 58) (k := 9) (i := 1) X dX4_vouch_58 (fun _ h => List.mem_cons_of_mem _ (List.mem_append_right _ h)) 0 rfl rfl (Nat.le_of_ble_eq_true rfl) rfl rfl rfl ?_
              refine v_bipush (pc := 61) (v := 100) X dX4_vouch_61 (by decide) ?_
              refine v_icmp_ge (pc := 63) X 70 dX4_vouch_63 (by decide) (fun c_63 => ?_) (fun c_63 => ?_)
              · refine v_iconst (pc := 70) (v := 0) X dX4_vouch_70 (by decide) ?_
                refine v_eV (pc := 71) (rest := []) (n := 3) (wr := ([] : va_W)) (wn := (wM G am mmi mwo mfa mre men mbY mbg mlo mnb mvo mho mro mwe mwi mba mkp mth msg mns (f_X4_goes_mtw 1 1 0))) (isC := [0, 1, 2, 3, 4, 5, 6, 7, 8, 9, 10, 11, 12, 13, 14, 15]) (isR := []) (isP := [0, 1, 2, 3, 4, 5, 6, 7, 8, 9, 10, 11, 12, 13, 14, 15]) X (c_X4_goes l G am mmi mwo mfa mre men mbY mbg mlo mnb mvo mho mro mwe mwi mba mkp mth msg mns mtw 1 1 0) gX4_vouch_X4_goes rfl rfl rfl (by decide +kernel) ⟨Nat.le_of_ble_eq_true rfl, Nat.le_of_ble_eq_true rfl⟩ dX4_vouch_71 rfl rfl (Nat.le_of_ble_eq_true rfl) ⟨Nat.le_of_ble_eq_true rfl, Nat.le_of_ble_eq_true rfl⟩ 0 rfl rfl ⟨rfl, rfl, rfl, rfl, by decide, rfl, rfl⟩ ?_
                refine v_if_ne (pc := 74) X 79 dX4_vouch_74 (by decide) (fun c_74 => ?_) (fun c_74 => ?_)
                · exact (go3 c_74 rfl).elim
                · refine v_iconst (pc := 77) (v := 0) X dX4_vouch_77 (by decide) ?_
                  exact v_iret (pc := 78) X hr dX4_vouch_78 () (by show (wM G am mmi mwo mfa mre men mbY mbg mlo mnb mvo mho mro mwe mwi mba mkp mth msg mns (f_X4_goes_mtw 1 1 0)) = (wM G am mmi mwo mfa mre men (f_X4_vouch_mbY mmi men mbY mlo mvo mho mba p0 p1 p2) mbg mlo mnb (f_X4_vouch_mvo mmi men mbY mlo mvo mho mba p0 p1 p2) (f_X4_vouch_mho mmi men mbY mlo mvo mho mba p0 p1 p2) (f_X4_vouch_mro mmi men mbY mlo mvo mho mro mba p0 p1 p2) (f_X4_vouch_mwe mmi men mbY mlo mvo mho mwe mba p0 p1 p2) (f_X4_vouch_mwi mmi men mbY mbg mlo mvo mho mwi mba p0 p1 p2) mba mkp mth msg mns (f_X4_vouch_mtw mmi men mbY mlo mvo mho mba p0 p1 p2)); simp only [f_X4_vouch_mbY, f_X4_vouch_mvo, f_X4_vouch_mho, f_X4_vouch_mro, f_X4_vouch_mwe, f_X4_vouch_mwi, f_X4_vouch_mtw, if_neg c_4, if_neg c_11, if_neg c_26, if_neg c_36, if_neg c_46, if_neg c_54, if_pos c_63, if_pos c_74]) (by show 0 = (f_X4_vouch_r mmi men mbY mlo mvo mho mba p0 p1 p2); simp only [f_X4_vouch_r, if_neg c_4, if_neg c_11, if_neg c_26, if_neg c_36, if_neg c_46, if_neg c_54, if_pos c_63, if_pos c_74])
              · refine v_iconst (pc := 66) (v := 1) X dX4_vouch_66 (by decide) ?_
                refine v_goto (pc := 67) X 71 dX4_vouch_67 (by decide) ?_
                refine v_eV (pc := 71) (rest := []) (n := 3) (wr := ([] : va_W)) (wn := (wM G am mmi mwo mfa mre men mbY mbg mlo mnb mvo mho mro mwe mwi mba mkp mth msg mns (f_X4_goes_mtw 1 1 1))) (isC := [0, 1, 2, 3, 4, 5, 6, 7, 8, 9, 10, 11, 12, 13, 14, 15]) (isR := []) (isP := [0, 1, 2, 3, 4, 5, 6, 7, 8, 9, 10, 11, 12, 13, 14, 15]) X (c_X4_goes l G am mmi mwo mfa mre men mbY mbg mlo mnb mvo mho mro mwe mwi mba mkp mth msg mns mtw 1 1 1) gX4_vouch_X4_goes rfl rfl rfl (by decide +kernel) ⟨Nat.le_of_ble_eq_true rfl, Nat.le_of_ble_eq_true rfl⟩ dX4_vouch_71 rfl rfl (Nat.le_of_ble_eq_true rfl) ⟨Nat.le_of_ble_eq_true rfl, Nat.le_of_ble_eq_true rfl⟩ 0 rfl rfl ⟨rfl, rfl, rfl, rfl, by decide, rfl, rfl⟩ ?_
                refine v_if_ne (pc := 74) X 79 dX4_vouch_74 (by decide) (fun c_74 => ?_) (fun c_74 => ?_)
                · have pin : vp_in p0 12 := mper_in c_4
                  have gin : vp_in p1 12 := mgst_in c_11
                  have vin : vp_in mvo 100 := vp_in_of2 (by decide) (by decide) hv0 c_63
                  refine v_aload_n (pc := 79) X dX4_vouch_79 0 rfl ?_
                  refine v_get (pc := 80) (k := 10) (i := 2) X dX4_vouch_80 (fun _ h => List.mem_cons_of_mem _ (List.mem_append_right _ h)) 0 rfl rfl (Nat.le_of_ble_eq_true rfl) rfl rfl rfl ?_
                  refine v_aload_n (pc := 83) X dX4_vouch_83 0 rfl ?_
                  refine v_get (pc := 84) (k := 9) (i := 1) X dX4_vouch_84 (fun _ h => List.mem_cons_of_mem _ (List.mem_append_right _ h)) 0 rfl rfl (Nat.le_of_ble_eq_true rfl) rfl rfl rfl ?_
                  refine v_iload_n (pc := 87) X dX4_vouch_87 1 rfl ?_
                  refine v_iast (pc := 88) (ws' := (wM G am mmi mwo mfa mre men mbY mbg mlo mnb mvo (upd mho (mvo).toNatClampNeg p0) mro mwe mwi mba mkp mth msg mns (f_X4_goes_mtw 1 1 1))) X dX4_vouch_88 8 rfl vin rfl ?_
                  refine v_aload_n (pc := 89) X dX4_vouch_89 0 rfl ?_
                  refine v_get (pc := 90) (k := 11) (i := 3) X dX4_vouch_90 (fun _ h => List.mem_cons_of_mem _ (List.mem_append_right _ h)) 0 rfl rfl (Nat.le_of_ble_eq_true rfl) rfl rfl rfl ?_
                  refine v_aload_n (pc := 93) X dX4_vouch_93 0 rfl ?_
                  refine v_get (pc := 94) (k := 9) (i := 1) X dX4_vouch_94 (fun _ h => List.mem_cons_of_mem _ (List.mem_append_right _ h)) 0 rfl rfl (Nat.le_of_ble_eq_true rfl) rfl rfl rfl ?_
                  refine v_iload_n (pc := 97) X dX4_vouch_97 3 rfl ?_
                  refine v_iast (pc := 98) (ws' := (wM G am mmi mwo mfa mre men mbY mbg mlo mnb mvo (upd mho (mvo).toNatClampNeg p0) (upd mro (mvo).toNatClampNeg p2) mwe mwi mba mkp mth msg mns (f_X4_goes_mtw 1 1 1))) X dX4_vouch_98 9 rfl vin rfl ?_
                  refine v_aload_n (pc := 99) X dX4_vouch_99 0 rfl ?_
                  refine v_get (pc := 100) (k := 12) (i := 4) X dX4_vouch_100 (fun _ h => List.mem_cons_of_mem _ (List.mem_append_right _ h)) 0 rfl rfl (Nat.le_of_ble_eq_true rfl) rfl rfl rfl ?_
                  refine v_aload_n (pc := 103) X dX4_vouch_103 0 rfl ?_
                  refine v_get (pc := 104) (k := 9) (i := 1) X dX4_vouch_104 (fun _ h => List.mem_cons_of_mem _ (List.mem_append_right _ h)) 0 rfl rfl (Nat.le_of_ble_eq_true rfl) rfl rfl rfl ?_
                  refine v_aload_n (pc := 107) X dX4_vouch_107 0 rfl ?_
                  refine v_get (pc := 108) (k := 0) (i := 5) X dX4_vouch_108 (fun _ h => List.mem_cons_of_mem _ (List.mem_append_right _ h)) 0 rfl rfl (Nat.le_of_ble_eq_true rfl) rfl rfl rfl ?_
                  refine v_iast (pc := 111) (ws' := (wM G am mmi mwo mfa mre men mbY mbg mlo mnb mvo (upd mho (mvo).toNatClampNeg p0) (upd mro (mvo).toNatClampNeg p2) (upd mwe (mvo).toNatClampNeg mmi) mwi mba mkp mth msg mns (f_X4_goes_mtw 1 1 1))) X dX4_vouch_111 10 rfl vin rfl ?_
                  refine v_aload_n (pc := 112) X dX4_vouch_112 0 rfl ?_
                  refine v_get (pc := 113) (k := 13) (i := 6) X dX4_vouch_113 (fun _ h => List.mem_cons_of_mem _ (List.mem_append_right _ h)) 0 rfl rfl (Nat.le_of_ble_eq_true rfl) rfl rfl rfl ?_
                  refine v_aload_n (pc := 116) X dX4_vouch_116 0 rfl ?_
                  refine v_get (pc := 117) (k := 9) (i := 1) X dX4_vouch_117 (fun _ h => List.mem_cons_of_mem _ (List.mem_append_right _ h)) 0 rfl rfl (Nat.le_of_ble_eq_true rfl) rfl rfl rfl ?_
                  refine v_aload_n (pc := 120) X dX4_vouch_120 0 rfl ?_
                  refine v_get (pc := 121) (k := 6) (i := 7) X dX4_vouch_121 (fun _ h => List.mem_cons_of_mem _ (List.mem_append_right _ h)) 0 rfl rfl (Nat.le_of_ble_eq_true rfl) rfl rfl rfl ?_
                  refine v_iload_n (pc := 124) X dX4_vouch_124 1 rfl ?_
                  refine v_iald (pc := 125) X dX4_vouch_125 6 rfl pin rfl ?_
                  refine v_iast (pc := 126) (ws' := (wM G am mmi mwo mfa mre men mbY mbg mlo mnb mvo (upd mho (mvo).toNatClampNeg p0) (upd mro (mvo).toNatClampNeg p2) (upd mwe (mvo).toNatClampNeg mmi) (upd mwi (mvo).toNatClampNeg (mbg (p0).toNatClampNeg)) mba mkp mth msg mns (f_X4_goes_mtw 1 1 1))) X dX4_vouch_126 11 rfl vin rfl ?_
                  refine v_aload_n (pc := 127) X dX4_vouch_127 0 rfl ?_
                  refine v_get (pc := 128) (k := 5) (i := 8) X dX4_vouch_128 (fun _ h => List.mem_cons_of_mem _ (List.mem_append_right _ h)) 0 rfl rfl (Nat.le_of_ble_eq_true rfl) rfl rfl rfl ?_
                  refine v_iload_n (pc := 131) X dX4_vouch_131 2 rfl ?_
                  refine v_aload_n (pc := 132) X dX4_vouch_132 0 rfl ?_
                  refine v_get (pc := 133) (k := 9) (i := 1) X dX4_vouch_133 (fun _ h => List.mem_cons_of_mem _ (List.mem_append_right _ h)) 0 rfl rfl (Nat.le_of_ble_eq_true rfl) rfl rfl rfl ?_
                  refine v_iast (pc := 136) (ws' := (wM G am mmi mwo mfa mre men (upd mbY (p1).toNatClampNeg mvo) mbg mlo mnb mvo (upd mho (mvo).toNatClampNeg p0) (upd mro (mvo).toNatClampNeg p2) (upd mwe (mvo).toNatClampNeg mmi) (upd mwi (mvo).toNatClampNeg (mbg (p0).toNatClampNeg)) mba mkp mth msg mns (f_X4_goes_mtw 1 1 1))) X dX4_vouch_136 5 rfl gin rfl ?_
                  refine v_aload_n (pc := 137) X dX4_vouch_137 0 rfl ?_
                  refine v_dup (pc := 138) X dX4_vouch_138 rfl ?_
                  refine v_get (pc := 139) (k := 9) (i := 1) X dX4_vouch_139 (fun _ h => List.mem_cons_of_mem _ (List.mem_append_right _ h)) 0 rfl rfl (Nat.le_of_ble_eq_true rfl) rfl rfl rfl ?_
                  refine v_iconst (pc := 142) (v := 1) X dX4_vouch_142 (by decide) ?_
                  refine v_iadd (pc := 143) X dX4_vouch_143 rfl ?_
                  refine v_put (pc := 144) (k := 9) (i := 1) (ws' := (wM G am mmi mwo mfa mre men (upd mbY (p1).toNatClampNeg mvo) mbg mlo mnb (mvo + 1) (upd mho (mvo).toNatClampNeg p0) (upd mro (mvo).toNatClampNeg p2) (upd mwe (mvo).toNatClampNeg mmi) (upd mwi (mvo).toNatClampNeg (mbg (p0).toNatClampNeg)) mba mkp mth msg mns (f_X4_goes_mtw 1 1 1))) X dX4_vouch_144 (fun _ h => List.mem_cons_of_mem _ (List.mem_append_right _ h)) tyX4_ok nmX4 0 rfl rfl (Nat.le_of_ble_eq_true rfl) rfl rfl (Or.inl rfl) rfl (rfl) rfl (Nat.le_of_ble_eq_true rfl) rfl ?_
                  refine v_aload_n (pc := 147) X dX4_vouch_147 0 rfl ?_
                  refine v_get (pc := 148) (k := 9) (i := 1) X dX4_vouch_148 (fun _ h => List.mem_cons_of_mem _ (List.mem_append_right _ h)) 0 rfl rfl (Nat.le_of_ble_eq_true rfl) rfl rfl rfl ?_
                  exact v_iret (pc := 151) X hr dX4_vouch_151 () (by show (wM G am mmi mwo mfa mre men (upd mbY (p1).toNatClampNeg mvo) mbg mlo mnb (mvo + 1) (upd mho (mvo).toNatClampNeg p0) (upd mro (mvo).toNatClampNeg p2) (upd mwe (mvo).toNatClampNeg mmi) (upd mwi (mvo).toNatClampNeg (mbg (p0).toNatClampNeg)) mba mkp mth msg mns (f_X4_goes_mtw 1 1 1)) = (wM G am mmi mwo mfa mre men (f_X4_vouch_mbY mmi men mbY mlo mvo mho mba p0 p1 p2) mbg mlo mnb (f_X4_vouch_mvo mmi men mbY mlo mvo mho mba p0 p1 p2) (f_X4_vouch_mho mmi men mbY mlo mvo mho mba p0 p1 p2) (f_X4_vouch_mro mmi men mbY mlo mvo mho mro mba p0 p1 p2) (f_X4_vouch_mwe mmi men mbY mlo mvo mho mwe mba p0 p1 p2) (f_X4_vouch_mwi mmi men mbY mbg mlo mvo mho mwi mba p0 p1 p2) mba mkp mth msg mns (f_X4_vouch_mtw mmi men mbY mlo mvo mho mba p0 p1 p2)); simp only [f_X4_vouch_mbY, f_X4_vouch_mvo, f_X4_vouch_mho, f_X4_vouch_mro, f_X4_vouch_mwe, f_X4_vouch_mwi, f_X4_vouch_mtw, if_neg c_4, if_neg c_11, if_neg c_26, if_neg c_36, if_neg c_46, if_neg c_54, if_neg c_63, if_neg c_74]) (by show (mvo + 1) = (f_X4_vouch_r mmi men mbY mlo mvo mho mba p0 p1 p2); simp only [f_X4_vouch_r, if_neg c_4, if_neg c_11, if_neg c_26, if_neg c_36, if_neg c_46, if_neg c_54, if_neg c_63, if_neg c_74])
                · refine v_iconst (pc := 77) (v := 0) X dX4_vouch_77 (by decide) ?_
                  exact v_iret (pc := 78) X hr dX4_vouch_78 () (by show (wM G am mmi mwo mfa mre men mbY mbg mlo mnb mvo mho mro mwe mwi mba mkp mth msg mns (f_X4_goes_mtw 1 1 1)) = (wM G am mmi mwo mfa mre men (f_X4_vouch_mbY mmi men mbY mlo mvo mho mba p0 p1 p2) mbg mlo mnb (f_X4_vouch_mvo mmi men mbY mlo mvo mho mba p0 p1 p2) (f_X4_vouch_mho mmi men mbY mlo mvo mho mba p0 p1 p2) (f_X4_vouch_mro mmi men mbY mlo mvo mho mro mba p0 p1 p2) (f_X4_vouch_mwe mmi men mbY mlo mvo mho mwe mba p0 p1 p2) (f_X4_vouch_mwi mmi men mbY mbg mlo mvo mho mwi mba p0 p1 p2) mba mkp mth msg mns (f_X4_vouch_mtw mmi men mbY mlo mvo mho mba p0 p1 p2)); simp only [f_X4_vouch_mbY, f_X4_vouch_mvo, f_X4_vouch_mho, f_X4_vouch_mro, f_X4_vouch_mwe, f_X4_vouch_mwi, f_X4_vouch_mtw, if_neg c_4, if_neg c_11, if_neg c_26, if_neg c_36, if_neg c_46, if_neg c_54, if_neg c_63, if_pos c_74]) (by show 0 = (f_X4_vouch_r mmi men mbY mlo mvo mho mba p0 p1 p2); simp only [f_X4_vouch_r, if_neg c_4, if_neg c_11, if_neg c_26, if_neg c_36, if_neg c_46, if_neg c_54, if_neg c_63, if_pos c_74])
def f_X4_end_r (mbY : Nat → Int32) (mho : Nat → Int32) (p0 : Int32) : Int32 := (if (f_X4_isGuest_r p0) = 0 then 0 else (if (mbY (p0).toNatClampNeg) = (-1) then 0 else (if (f_X4_goes_r (f_X4_isGuest_r p0) 1 1) = 0 then 0 else (mho ((mbY (p0).toNatClampNeg)).toNatClampNeg))))
def f_X4_end_mbY (mbY : Nat → Int32) (p0 : Int32) : Nat → Int32 := (if (f_X4_isGuest_r p0) = 0 then mbY else (if (mbY (p0).toNatClampNeg) = (-1) then mbY else (if (f_X4_goes_r (f_X4_isGuest_r p0) 1 1) = 0 then mbY else (upd mbY (p0).toNatClampNeg (-1)))))
def f_X4_end_mtw (mbY : Nat → Int32) (p0 : Int32) : Int32 := (if (f_X4_isGuest_r p0) = 0 then (f_X4_goes_mtw (f_X4_isGuest_r p0) 0 1) else (if (mbY (p0).toNatClampNeg) = (-1) then (f_X4_goes_mtw (f_X4_isGuest_r p0) 0 1) else (f_X4_goes_mtw (f_X4_isGuest_r p0) 1 1)))
set_option maxHeartbeats 4000000 in
set_option maxRecDepth 100000 in
theorem c_X4_end (l : Launch) (G : va_G) (am : Nat → Nat) (mmi : Int32) (mwo : Nat → Int32) (mfa : Nat → Int32) (mre : Nat → Int32) (men : Nat → Int32) (mbY : Nat → Int32) (mbg : Nat → Int32) (mlo : Nat → Int32) (mnb : Int32) (mvo : Int32) (mho : Nat → Int32) (mro : Nat → Int32) (mwe : Nat → Int32) (mwi : Nat → Int32) (mba : Nat → Int32) (mkp : Nat → Int32) (mth : Nat → Int32) (msg : Nat → Int32) (mns : Int32) (mtw : Int32) (p0 : Int32) (hby : ∀ j : Nat, j < 12 → mbY j = -1 ∨ vp_in (mbY j) 100) (hho : ∀ j : Nat, j < 100 → vp_in (mho j) 12) : Ke l yX4_end wsX4_end { frames := 2, cells := 0, slots := 0, locals := 42 } 0 0 G (wM G am mmi mwo mfa mre men mbY mbg mlo mnb mvo mho mro mwe mwi mba mkp mth msg mns mtw) [.ref (am 0), .int p0] (f_X4_end_r mbY mho p0) (wM G am mmi mwo mfa mre men (f_X4_end_mbY mbY p0) mbg mlo mnb mvo mho mro mwe mwi mba mkp mth msg mns (f_X4_end_mtw mbY p0)) := by
  refine v_ofi (cc := cX4_end) (nL := 3) (lv := [(0, .ref (am 0)), (1, .int p0)]) (by decide) rfl (Nat.le_of_ble_eq_true rfl) rfl ?_
  intro p e s m args below meth c A X hr
  refine v_aload_n (pc := 0) X dX4_end_0 0 rfl ?_
  refine v_iload_n (pc := 1) X dX4_end_1 1 rfl ?_
  refine v_e0S (pc := 2) (rest := [.ref (am 0)]) (n := 1) X (c_X4_isGuest l G p0) gX4_end_X4_isGuest rfl rfl rfl (by decide +kernel) ⟨Nat.le_of_ble_eq_true rfl, Nat.le_of_ble_eq_true rfl⟩ dX4_end_2 rfl rfl (Nat.le_of_ble_eq_true rfl) ⟨Nat.le_of_ble_eq_true rfl, Nat.le_of_ble_eq_true rfl⟩ ?_
  refine v_iload_n (pc := 5) X dX4_end_5 1 rfl ?_
  refine v_e0S (pc := 6) (rest := [.int (f_X4_isGuest_r p0), .ref (am 0)]) (n := 1) X (c_X4_isGuest l G p0) gX4_end_X4_isGuest rfl rfl rfl (by decide +kernel) ⟨Nat.le_of_ble_eq_true rfl, Nat.le_of_ble_eq_true rfl⟩ dX4_end_6 rfl rfl (Nat.le_of_ble_eq_true rfl) ⟨Nat.le_of_ble_eq_true rfl, Nat.le_of_ble_eq_true rfl⟩ ?_
  refine v_if_eq (pc := 9) X 26 dX4_end_9 (by decide) (fun c_9 => ?_) (fun c_9 => ?_)
  · refine v_iconst (pc := 26) (v := 0) X dX4_end_26 (by decide) ?_
    refine v_iconst (pc := 27) (v := 1) X dX4_end_27 (by decide) ?_
    refine v_eV (pc := 28) (rest := []) (n := 3) (wr := ([] : va_W)) (wn := (wM G am mmi mwo mfa mre men mbY mbg mlo mnb mvo mho mro mwe mwi mba mkp mth msg mns (f_X4_goes_mtw (f_X4_isGuest_r p0) 0 1))) (isC := [0, 1, 2, 3, 4, 5, 6, 7, 8, 9, 10, 11, 12, 13, 14, 15]) (isR := []) (isP := [0, 1, 2, 3, 4, 5, 6, 7, 8, 9, 10, 11, 12, 13, 14, 15]) X (c_X4_goes l G am mmi mwo mfa mre men mbY mbg mlo mnb mvo mho mro mwe mwi mba mkp mth msg mns mtw (f_X4_isGuest_r p0) 0 1) gX4_end_X4_goes rfl rfl rfl (by decide +kernel) ⟨Nat.le_of_ble_eq_true rfl, Nat.le_of_ble_eq_true rfl⟩ dX4_end_28 rfl rfl (Nat.le_of_ble_eq_true rfl) ⟨Nat.le_of_ble_eq_true rfl, Nat.le_of_ble_eq_true rfl⟩ 0 rfl rfl ⟨rfl, rfl, rfl, rfl, by decide, rfl, rfl⟩ ?_
    refine v_if_ne (pc := 31) X 36 dX4_end_31 (by decide) (fun c_31 => ?_) (fun c_31 => ?_)
    · exact (go2 c_31 rfl).elim
    · refine v_iconst (pc := 34) (v := 0) X dX4_end_34 (by decide) ?_
      exact v_iret (pc := 35) X hr dX4_end_35 () (by show (wM G am mmi mwo mfa mre men mbY mbg mlo mnb mvo mho mro mwe mwi mba mkp mth msg mns (f_X4_goes_mtw (f_X4_isGuest_r p0) 0 1)) = (wM G am mmi mwo mfa mre men (f_X4_end_mbY mbY p0) mbg mlo mnb mvo mho mro mwe mwi mba mkp mth msg mns (f_X4_end_mtw mbY p0)); simp only [f_X4_end_mbY, f_X4_end_mtw, if_pos c_9, if_pos c_31]) (by show 0 = (f_X4_end_r mbY mho p0); simp only [f_X4_end_r, if_pos c_9, if_pos c_31])
  · have pin : vp_in p0 12 := mgst_in c_9
    refine v_aload_n (pc := 12) X dX4_end_12 0 rfl ?_
    refine v_get (pc := 13) (k := 5) (i := 1) X dX4_end_13 (fun _ h => List.mem_cons_of_mem _ (List.mem_append_right _ h)) 0 rfl rfl (Nat.le_of_ble_eq_true rfl) rfl rfl rfl ?_
    refine v_iload_n (pc := 16) X dX4_end_16 1 rfl ?_
    refine v_iald (pc := 17) X dX4_end_17 5 rfl pin rfl ?_
    refine v_iconst (pc := 18) (v := (-1)) X dX4_end_18 (by decide) ?_
    refine v_icmp_eq (pc := 19) X 26 dX4_end_19 (by decide) (fun c_19 => ?_) (fun c_19 => ?_)
    · refine v_iconst (pc := 26) (v := 0) X dX4_end_26 (by decide) ?_
      refine v_iconst (pc := 27) (v := 1) X dX4_end_27 (by decide) ?_
      refine v_eV (pc := 28) (rest := []) (n := 3) (wr := ([] : va_W)) (wn := (wM G am mmi mwo mfa mre men mbY mbg mlo mnb mvo mho mro mwe mwi mba mkp mth msg mns (f_X4_goes_mtw (f_X4_isGuest_r p0) 0 1))) (isC := [0, 1, 2, 3, 4, 5, 6, 7, 8, 9, 10, 11, 12, 13, 14, 15]) (isR := []) (isP := [0, 1, 2, 3, 4, 5, 6, 7, 8, 9, 10, 11, 12, 13, 14, 15]) X (c_X4_goes l G am mmi mwo mfa mre men mbY mbg mlo mnb mvo mho mro mwe mwi mba mkp mth msg mns mtw (f_X4_isGuest_r p0) 0 1) gX4_end_X4_goes rfl rfl rfl (by decide +kernel) ⟨Nat.le_of_ble_eq_true rfl, Nat.le_of_ble_eq_true rfl⟩ dX4_end_28 rfl rfl (Nat.le_of_ble_eq_true rfl) ⟨Nat.le_of_ble_eq_true rfl, Nat.le_of_ble_eq_true rfl⟩ 0 rfl rfl ⟨rfl, rfl, rfl, rfl, by decide, rfl, rfl⟩ ?_
      refine v_if_ne (pc := 31) X 36 dX4_end_31 (by decide) (fun c_31 => ?_) (fun c_31 => ?_)
      · exact (go2 c_31 rfl).elim
      · refine v_iconst (pc := 34) (v := 0) X dX4_end_34 (by decide) ?_
        exact v_iret (pc := 35) X hr dX4_end_35 () (by show (wM G am mmi mwo mfa mre men mbY mbg mlo mnb mvo mho mro mwe mwi mba mkp mth msg mns (f_X4_goes_mtw (f_X4_isGuest_r p0) 0 1)) = (wM G am mmi mwo mfa mre men (f_X4_end_mbY mbY p0) mbg mlo mnb mvo mho mro mwe mwi mba mkp mth msg mns (f_X4_end_mtw mbY p0)); simp only [f_X4_end_mbY, f_X4_end_mtw, if_neg c_9, if_pos c_19, if_pos c_31]) (by show 0 = (f_X4_end_r mbY mho p0); simp only [f_X4_end_r, if_neg c_9, if_pos c_19, if_pos c_31])
    · refine v_iconst (pc := 22) (v := 1) X dX4_end_22 (by decide) ?_
      refine v_goto (pc := 23) X 27 dX4_end_23 (by decide) ?_
      refine v_iconst (pc := 27) (v := 1) X dX4_end_27 (by decide) ?_
      refine v_eV (pc := 28) (rest := []) (n := 3) (wr := ([] : va_W)) (wn := (wM G am mmi mwo mfa mre men mbY mbg mlo mnb mvo mho mro mwe mwi mba mkp mth msg mns (f_X4_goes_mtw (f_X4_isGuest_r p0) 1 1))) (isC := [0, 1, 2, 3, 4, 5, 6, 7, 8, 9, 10, 11, 12, 13, 14, 15]) (isR := []) (isP := [0, 1, 2, 3, 4, 5, 6, 7, 8, 9, 10, 11, 12, 13, 14, 15]) X (c_X4_goes l G am mmi mwo mfa mre men mbY mbg mlo mnb mvo mho mro mwe mwi mba mkp mth msg mns mtw (f_X4_isGuest_r p0) 1 1) gX4_end_X4_goes rfl rfl rfl (by decide +kernel) ⟨Nat.le_of_ble_eq_true rfl, Nat.le_of_ble_eq_true rfl⟩ dX4_end_28 rfl rfl (Nat.le_of_ble_eq_true rfl) ⟨Nat.le_of_ble_eq_true rfl, Nat.le_of_ble_eq_true rfl⟩ 0 rfl rfl ⟨rfl, rfl, rfl, rfl, by decide, rfl, rfl⟩ ?_
      refine v_if_ne (pc := 31) X 36 dX4_end_31 (by decide) (fun c_31 => ?_) (fun c_31 => ?_)
      · have pin2 : vp_in p0 12 := mgst_in (go1 c_31)
        have hb : vp_in (mbY (p0).toNatClampNeg) 100 := (hby _ (vp_lt pin2)).resolve_left c_19
        refine v_aload_n (pc := 36) X dX4_end_36 0 rfl ?_
        refine v_get (pc := 37) (k := 10) (i := 2) X dX4_end_37 (fun _ h => List.mem_cons_of_mem _ (List.mem_append_right _ h)) 0 rfl rfl (Nat.le_of_ble_eq_true rfl) rfl rfl rfl ?_
        refine v_aload_n (pc := 40) X dX4_end_40 0 rfl ?_
        refine v_get (pc := 41) (k := 5) (i := 1) X dX4_end_41 (fun _ h => List.mem_cons_of_mem _ (List.mem_append_right _ h)) 0 rfl rfl (Nat.le_of_ble_eq_true rfl) rfl rfl rfl ?_
        refine v_iload_n (pc := 44) X dX4_end_44 1 rfl ?_
        refine v_iald (pc := 45) X dX4_end_45 5 rfl pin2 rfl ?_
        refine v_iald (pc := 46) X dX4_end_46 8 rfl hb rfl ?_
        refine v_istore_n (pc := 47) (lv' := [(0, .ref (am 0)), (1, .int p0), (2, .int (mho ((mbY (p0).toNatClampNeg)).toNatClampNeg))]) X dX4_end_47 rfl (Nat.le_of_ble_eq_true rfl) [1, 2, 0] rfl ?_
        refine v_aload_n (pc := 48) X dX4_end_48 0 rfl ?_
        refine v_get (pc := 49) (k := 5) (i := 1) X dX4_end_49 (fun _ h => List.mem_cons_of_mem _ (List.mem_append_right _ h)) 0 rfl rfl (Nat.le_of_ble_eq_true rfl) rfl rfl rfl ?_
        refine v_iload_n (pc := 52) X dX4_end_52 1 rfl ?_
        refine v_iconst (pc := 53) (v := (-1)) X dX4_end_53 (by decide) ?_
        refine v_iast (pc := 54) (ws' := (wM G am mmi mwo mfa mre men (upd mbY (p0).toNatClampNeg (-1)) mbg mlo mnb mvo mho mro mwe mwi mba mkp mth msg mns (f_X4_goes_mtw (f_X4_isGuest_r p0) 1 1))) X dX4_end_54 5 rfl pin2 rfl ?_
        refine v_iload_n (pc := 55) X dX4_end_55 2 rfl ?_
        exact v_iret (pc := 56) X hr dX4_end_56 () (by show (wM G am mmi mwo mfa mre men (upd mbY (p0).toNatClampNeg (-1)) mbg mlo mnb mvo mho mro mwe mwi mba mkp mth msg mns (f_X4_goes_mtw (f_X4_isGuest_r p0) 1 1)) = (wM G am mmi mwo mfa mre men (f_X4_end_mbY mbY p0) mbg mlo mnb mvo mho mro mwe mwi mba mkp mth msg mns (f_X4_end_mtw mbY p0)); simp only [f_X4_end_mbY, f_X4_end_mtw, if_neg c_9, if_neg c_19, if_neg c_31]) (by show (mho ((mbY (p0).toNatClampNeg)).toNatClampNeg) = (f_X4_end_r mbY mho p0); simp only [f_X4_end_r, if_neg c_9, if_neg c_19, if_neg c_31])
      · refine v_iconst (pc := 34) (v := 0) X dX4_end_34 (by decide) ?_
        exact v_iret (pc := 35) X hr dX4_end_35 () (by show (wM G am mmi mwo mfa mre men mbY mbg mlo mnb mvo mho mro mwe mwi mba mkp mth msg mns (f_X4_goes_mtw (f_X4_isGuest_r p0) 1 1)) = (wM G am mmi mwo mfa mre men (f_X4_end_mbY mbY p0) mbg mlo mnb mvo mho mro mwe mwi mba mkp mth msg mns (f_X4_end_mtw mbY p0)); simp only [f_X4_end_mbY, f_X4_end_mtw, if_neg c_9, if_neg c_19, if_pos c_31]) (by show 0 = (f_X4_end_r mbY mho p0); simp only [f_X4_end_r, if_neg c_9, if_neg c_19, if_pos c_31])
def FX4_lose_32_x3 : Nat → Int32 → (Nat → Int32) → (Nat → Int32) → Int32 → (Nat → Int32) → (Nat → Int32) → (Nat → Int32) → Int32 → Int32 → Int32
  | 0, _, _, _, _, _, _, _, _, _ => 0
  | n + 1, x3, vba, mbg, mvo, mho, mwe, mwi, p0, p1 => (if mvo ≤ x3 then x3 else (if (vba (x3).toNatClampNeg) = 0 then (if (mho (x3).toNatClampNeg) = p0 then (if (mwi (x3).toNatClampNeg) = (mbg (p0).toNatClampNeg) then (if (mwe (x3).toNatClampNeg) < p1 then (FX4_lose_32_x3 n (x3 + 1) (upd vba (x3).toNatClampNeg 0) mbg mvo mho mwe mwi p0 p1) else (FX4_lose_32_x3 n (x3 + 1) (upd vba (x3).toNatClampNeg 1) mbg mvo mho mwe mwi p0 p1)) else (FX4_lose_32_x3 n (x3 + 1) (upd vba (x3).toNatClampNeg 0) mbg mvo mho mwe mwi p0 p1)) else (FX4_lose_32_x3 n (x3 + 1) (upd vba (x3).toNatClampNeg 0) mbg mvo mho mwe mwi p0 p1)) else (FX4_lose_32_x3 n (x3 + 1) (upd vba (x3).toNatClampNeg 1) mbg mvo mho mwe mwi p0 p1)))
def FX4_lose_32_vba : Nat → Int32 → (Nat → Int32) → (Nat → Int32) → Int32 → (Nat → Int32) → (Nat → Int32) → (Nat → Int32) → Int32 → Int32 → Nat → Int32
  | 0, _, _, _, _, _, _, _, _, _ => fun _ => 0
  | n + 1, x3, vba, mbg, mvo, mho, mwe, mwi, p0, p1 => (if mvo ≤ x3 then vba else (if (vba (x3).toNatClampNeg) = 0 then (if (mho (x3).toNatClampNeg) = p0 then (if (mwi (x3).toNatClampNeg) = (mbg (p0).toNatClampNeg) then (if (mwe (x3).toNatClampNeg) < p1 then (FX4_lose_32_vba n (x3 + 1) (upd vba (x3).toNatClampNeg 0) mbg mvo mho mwe mwi p0 p1) else (FX4_lose_32_vba n (x3 + 1) (upd vba (x3).toNatClampNeg 1) mbg mvo mho mwe mwi p0 p1)) else (FX4_lose_32_vba n (x3 + 1) (upd vba (x3).toNatClampNeg 0) mbg mvo mho mwe mwi p0 p1)) else (FX4_lose_32_vba n (x3 + 1) (upd vba (x3).toNatClampNeg 0) mbg mvo mho mwe mwi p0 p1)) else (FX4_lose_32_vba n (x3 + 1) (upd vba (x3).toNatClampNeg 1) mbg mvo mho mwe mwi p0 p1)))
def FX4_lose_106_y3 : Nat → Int32 → Int32 → (Nat → Int32) → (Nat → Int32) → (Nat → Int32) → Int32 → (Nat → Int32) → (Nat → Int32) → (Nat → Int32) → (Nat → Int32) → Int32 → Int32 → Int32
  | 0, _, _, _, _, _, _, _, _, _, _, _, _ => 0
  | n + 1, y3, y4, mbY, mbg, mlo, mvo, mho, mwe, mwi, mba, p0, p1 => (if 12 ≤ y4 then y3 else (if (f_X4_isTainted_r mbY (upd mlo (p0).toNatClampNeg 1) mho (FX4_lose_32_vba ((mvo).toNatClampNeg + 1) 0 mba mbg mvo mho mwe mwi p0 p1) y4) = 0 then (FX4_lose_106_y3 n (y3 + 0) (y4 + 1) mbY mbg mlo mvo mho mwe mwi mba p0 p1) else (FX4_lose_106_y3 n (y3 + 1) (y4 + 1) mbY mbg mlo mvo mho mwe mwi mba p0 p1)))
def FX4_lose_106_y4 : Nat → Int32 → Int32 → (Nat → Int32) → (Nat → Int32) → (Nat → Int32) → Int32 → (Nat → Int32) → (Nat → Int32) → (Nat → Int32) → (Nat → Int32) → Int32 → Int32 → Int32
  | 0, _, _, _, _, _, _, _, _, _, _, _, _ => 0
  | n + 1, y3, y4, mbY, mbg, mlo, mvo, mho, mwe, mwi, mba, p0, p1 => (if 12 ≤ y4 then y4 else (if (f_X4_isTainted_r mbY (upd mlo (p0).toNatClampNeg 1) mho (FX4_lose_32_vba ((mvo).toNatClampNeg + 1) 0 mba mbg mvo mho mwe mwi p0 p1) y4) = 0 then (FX4_lose_106_y4 n (y3 + 0) (y4 + 1) mbY mbg mlo mvo mho mwe mwi mba p0 p1) else (FX4_lose_106_y4 n (y3 + 1) (y4 + 1) mbY mbg mlo mvo mho mwe mwi mba p0 p1)))
def f_X4_lose_r (mmi : Int32) (mbY : Nat → Int32) (mbg : Nat → Int32) (mlo : Nat → Int32) (mvo : Int32) (mho : Nat → Int32) (mwe : Nat → Int32) (mwi : Nat → Int32) (mba : Nat → Int32) (p0 : Int32) (p1 : Int32) : Int32 := (if (f_X4_goes_r (f_X4_isPerson_r p0) (f_X4_in_r p1 0 mmi) 1) = 0 then 0 else (FX4_lose_106_y3 13 0 0 mbY mbg mlo mvo mho mwe mwi mba p0 p1))
def f_X4_lose_mlo (mmi : Int32) (mlo : Nat → Int32) (p0 : Int32) (p1 : Int32) : Nat → Int32 := (if (f_X4_goes_r (f_X4_isPerson_r p0) (f_X4_in_r p1 0 mmi) 1) = 0 then mlo else (upd mlo (p0).toNatClampNeg 1))
def f_X4_lose_mba (mmi : Int32) (mbg : Nat → Int32) (mvo : Int32) (mho : Nat → Int32) (mwe : Nat → Int32) (mwi : Nat → Int32) (mba : Nat → Int32) (p0 : Int32) (p1 : Int32) : Nat → Int32 := (if (f_X4_goes_r (f_X4_isPerson_r p0) (f_X4_in_r p1 0 mmi) 1) = 0 then mba else (FX4_lose_32_vba ((mvo).toNatClampNeg + 1) 0 mba mbg mvo mho mwe mwi p0 p1))
def f_X4_lose_mtw (mmi : Int32) (p0 : Int32) (p1 : Int32) : Int32 := (f_X4_goes_mtw (f_X4_isPerson_r p0) (f_X4_in_r p1 0 mmi) 1)
set_option maxHeartbeats 4000000 in
set_option maxRecDepth 100000 in
theorem c_X4_lose (l : Launch) (G : va_G) (am : Nat → Nat) (mmi : Int32) (mwo : Nat → Int32) (mfa : Nat → Int32) (mre : Nat → Int32) (men : Nat → Int32) (mbY : Nat → Int32) (mbg : Nat → Int32) (mlo : Nat → Int32) (mnb : Int32) (mvo : Int32) (mho : Nat → Int32) (mro : Nat → Int32) (mwe : Nat → Int32) (mwi : Nat → Int32) (mba : Nat → Int32) (mkp : Nat → Int32) (mth : Nat → Int32) (msg : Nat → Int32) (mns : Int32) (mtw : Int32) (p0 : Int32) (p1 : Int32) (hby : ∀ j : Nat, j < 12 → mbY j = -1 ∨ vp_in (mbY j) 100) (hho : ∀ j : Nat, j < 100 → vp_in (mho j) 12) (hlo : ∀ j : Nat, j < 12 → mlo j = 0 ∨ mlo j = 1) (hvo : mvo = nI (mvo).toNatClampNeg ∧ (mvo).toNatClampNeg ≤ 100) : Ke l yX4_lose wsX4_lose { frames := 2, cells := 0, slots := 0, locals := 42 } 0 0 G (wM G am mmi mwo mfa mre men mbY mbg mlo mnb mvo mho mro mwe mwi mba mkp mth msg mns mtw) [.ref (am 0), .int p0, .int p1] (f_X4_lose_r mmi mbY mbg mlo mvo mho mwe mwi mba p0 p1) (wM G am mmi mwo mfa mre men mbY mbg (f_X4_lose_mlo mmi mlo p0 p1) mnb mvo mho mro mwe mwi (f_X4_lose_mba mmi mbg mvo mho mwe mwi mba p0 p1) mkp mth msg mns (f_X4_lose_mtw mmi p0 p1)) := by
  refine v_ofi (cc := cX4_lose) (nL := 5) (lv := [(0, .ref (am 0)), (1, .int p0), (2, .int p1)]) (by decide) rfl (Nat.le_of_ble_eq_true rfl) rfl ?_
  intro p e s m args below meth c A X hr
  refine v_aload_n (pc := 0) X dX4_lose_0 0 rfl ?_
  refine v_iload_n (pc := 1) X dX4_lose_1 1 rfl ?_
  refine v_e0S (pc := 2) (rest := [.ref (am 0)]) (n := 1) X (c_X4_isPerson l G p0) gX4_lose_X4_isPerson rfl rfl rfl (by decide +kernel) ⟨Nat.le_of_ble_eq_true rfl, Nat.le_of_ble_eq_true rfl⟩ dX4_lose_2 rfl rfl (Nat.le_of_ble_eq_true rfl) ⟨Nat.le_of_ble_eq_true rfl, Nat.le_of_ble_eq_true rfl⟩ ?_
  refine v_iload_n (pc := 5) X dX4_lose_5 2 rfl ?_
  refine v_iconst (pc := 6) (v := 0) X dX4_lose_6 (by decide) ?_
  refine v_aload_n (pc := 7) X dX4_lose_7 0 rfl ?_
  refine v_get (pc := 8) (k := 0) (i := 1) X dX4_lose_8 (fun _ h => List.mem_cons_of_mem _ (List.mem_append_right _ h)) 0 rfl rfl (Nat.le_of_ble_eq_true rfl) rfl rfl rfl ?_
  refine v_e0S (pc := 11) (rest := [.int (f_X4_isPerson_r p0), .ref (am 0)]) (n := 3) X (c_X4_in l G p1 0 mmi) gX4_lose_X4_in rfl rfl rfl (by decide +kernel) ⟨Nat.le_of_ble_eq_true rfl, Nat.le_of_ble_eq_true rfl⟩ dX4_lose_11 rfl rfl (Nat.le_of_ble_eq_true rfl) ⟨Nat.le_of_ble_eq_true rfl, Nat.le_of_ble_eq_true rfl⟩ ?_
  refine v_iconst (pc := 14) (v := 1) X dX4_lose_14 (by decide) ?_
  refine v_eV (pc := 15) (rest := []) (n := 3) (wr := ([] : va_W)) (wn := (wM G am mmi mwo mfa mre men mbY mbg mlo mnb mvo mho mro mwe mwi mba mkp mth msg mns (f_X4_goes_mtw (f_X4_isPerson_r p0) (f_X4_in_r p1 0 mmi) 1))) (isC := [0, 1, 2, 3, 4, 5, 6, 7, 8, 9, 10, 11, 12, 13, 14, 15]) (isR := []) (isP := [0, 1, 2, 3, 4, 5, 6, 7, 8, 9, 10, 11, 12, 13, 14, 15]) X (c_X4_goes l G am mmi mwo mfa mre men mbY mbg mlo mnb mvo mho mro mwe mwi mba mkp mth msg mns mtw (f_X4_isPerson_r p0) (f_X4_in_r p1 0 mmi) 1) gX4_lose_X4_goes rfl rfl rfl (by decide +kernel) ⟨Nat.le_of_ble_eq_true rfl, Nat.le_of_ble_eq_true rfl⟩ dX4_lose_15 rfl rfl (Nat.le_of_ble_eq_true rfl) ⟨Nat.le_of_ble_eq_true rfl, Nat.le_of_ble_eq_true rfl⟩ 0 rfl rfl ⟨rfl, rfl, rfl, rfl, by decide, rfl, rfl⟩ ?_
  refine v_if_ne (pc := 18) X 23 dX4_lose_18 (by decide) (fun c_18 => ?_) (fun c_18 => ?_)
  · have pin : vp_in p0 12 := mper_in (go1 c_18)
    refine v_aload_n (pc := 23) X dX4_lose_23 0 rfl ?_
    refine v_get (pc := 24) (k := 7) (i := 2) X dX4_lose_24 (fun _ h => List.mem_cons_of_mem _ (List.mem_append_right _ h)) 0 rfl rfl (Nat.le_of_ble_eq_true rfl) rfl rfl rfl ?_
    refine v_iload_n (pc := 27) X dX4_lose_27 1 rfl ?_
    refine v_iconst (pc := 28) (v := 1) X dX4_lose_28 (by decide) ?_
    refine v_zast (pc := 29) (ws' := (wM G am mmi mwo mfa mre men mbY mbg (upd mlo (p0).toNatClampNeg 1) mnb mvo mho mro mwe mwi mba mkp mth msg mns (f_X4_goes_mtw (f_X4_isPerson_r p0) (f_X4_in_r p1 0 mmi) 1))) X dX4_lose_29 7 rfl pin rfl ?_
    refine v_iconst (pc := 30) (v := 0) X dX4_lose_30 (by decide) ?_
    refine v_istore_n (pc := 31) (lv' := [(0, .ref (am 0)), (1, .int p0), (2, .int p1), (3, .int 0)]) X dX4_lose_31 rfl (Nat.le_of_ble_eq_true rfl) [1, 2, 3, 0] rfl ?_
    have LP32 : ∀ (n : Nat) (x3 : Int32) (vba : Nat → Int32), (x3 = nI ((mvo).toNatClampNeg + 1 - n) ∧ 1 ≤ n ∧ n ≤ (mvo).toNatClampNeg + 1) → V p l e (headSpec wsX4_lose { frames := 2, cells := 0, slots := 0, locals := 42 }).room s m args below meth c 5 G A 0 0 (QI below args s G A 0 0 (S := Unit) (fun x _ => x = (f_X4_lose_r mmi mbY mbg mlo mvo mho mwe mwi mba p0 p1)) (fun _ => (wM G am mmi mwo mfa mre men mbY mbg (f_X4_lose_mlo mmi mlo p0 p1) mnb mvo mho mro mwe mwi (f_X4_lose_mba mmi mbg mvo mho mwe mwi mba p0 p1) mkp mth msg mns (f_X4_lose_mtw mmi p0 p1)))) (wM G am mmi mwo mfa mre men mbY mbg (upd mlo (p0).toNatClampNeg 1) mnb mvo mho mro mwe mwi (FX4_lose_32_vba n x3 vba mbg mvo mho mwe mwi p0 p1) mkp mth msg mns (f_X4_goes_mtw (f_X4_isPerson_r p0) (f_X4_in_r p1 0 mmi) 1)) [(0, .ref (am 0)), (1, .int p0), (2, .int p1), (3, .int (FX4_lose_32_x3 n x3 vba mbg mvo mho mwe mwi p0 p1))] 101 [] → V p l e (headSpec wsX4_lose { frames := 2, cells := 0, slots := 0, locals := 42 }).room s m args below meth c 5 G A 0 0 (QI below args s G A 0 0 (S := Unit) (fun x _ => x = (f_X4_lose_r mmi mbY mbg mlo mvo mho mwe mwi mba p0 p1)) (fun _ => (wM G am mmi mwo mfa mre men mbY mbg (f_X4_lose_mlo mmi mlo p0 p1) mnb mvo mho mro mwe mwi (f_X4_lose_mba mmi mbg mvo mho mwe mwi mba p0 p1) mkp mth msg mns (f_X4_lose_mtw mmi p0 p1)))) (wM G am mmi mwo mfa mre men mbY mbg (upd mlo (p0).toNatClampNeg 1) mnb mvo mho mro mwe mwi vba mkp mth msg mns (f_X4_goes_mtw (f_X4_isPerson_r p0) (f_X4_in_r p1 0 mmi) 1)) [(0, .ref (am 0)), (1, .int p0), (2, .int p1), (3, .int x3)] 32 [] := by
      intro n
      induction n with
      | zero => intro x3 vba hI hK; exact False.elim (by omega)
      | succ n ih =>
        intro x3 vba hI hK
        refine v_iload_n (pc := 32) X dX4_lose_32 3 rfl ?_
        refine v_aload_n (pc := 33) X dX4_lose_33 0 rfl ?_
        refine v_get (pc := 34) (k := 9) (i := 3) X dX4_lose_34 (fun _ h => List.mem_cons_of_mem _ (List.mem_append_right _ h)) 0 rfl rfl (Nat.le_of_ble_eq_true rfl) rfl rfl rfl ?_
        refine v_icmp_ge (pc := 37) X 101 dX4_lose_37 (by decide) (fun c_37 => ?_) (fun c_37 => ?_)
        · simpa only [FX4_lose_32_x3, FX4_lose_32_vba, if_pos c_37] using hK
        · have hx9 : vp_in x3 (mvo).toNatClampNeg := (cnt_in hvo.1 (by omega) hI c_37).1
          have hx3 : vp_in x3 100 := vp_mono hx9 hvo.2
          refine v_aload_n (pc := 40) X dX4_lose_40 0 rfl ?_
          refine v_get (pc := 41) (k := 14) (i := 4) X dX4_lose_41 (fun _ h => List.mem_cons_of_mem _ (List.mem_append_right _ h)) 0 rfl rfl (Nat.le_of_ble_eq_true rfl) rfl rfl rfl ?_
          refine v_iload_n (pc := 44) X dX4_lose_44 3 rfl ?_
          refine v_aload_n (pc := 45) X dX4_lose_45 0 rfl ?_
          refine v_get (pc := 46) (k := 14) (i := 4) X dX4_lose_46 (fun _ h => List.mem_cons_of_mem _ (List.mem_append_right _ h)) 0 rfl rfl (Nat.le_of_ble_eq_true rfl) rfl rfl rfl ?_
          refine v_iload_n (pc := 49) X dX4_lose_49 3 rfl ?_
          refine v_zald (pc := 50) X dX4_lose_50 12 rfl hx3 rfl ?_
          refine v_if_ne (pc := 51) X 89 dX4_lose_51 (by decide) (fun c_51 => ?_) (fun c_51 => ?_)
          · refine v_iconst (pc := 89) (v := 1) X dX4_lose_89 (by decide) ?_
            refine v_goto (pc := 90) X 94 dX4_lose_90 (by decide) ?_
            refine v_zast (pc := 94) (ws' := (wM G am mmi mwo mfa mre men mbY mbg (upd mlo (p0).toNatClampNeg 1) mnb mvo mho mro mwe mwi (upd vba (x3).toNatClampNeg 1) mkp mth msg mns (f_X4_goes_mtw (f_X4_isPerson_r p0) (f_X4_in_r p1 0 mmi) 1))) X dX4_lose_94 12 rfl hx3 rfl ?_
            refine v_iinc (pc := 95) (k := 3) (v := (x3 + 1)) (lv' := [(0, .ref (am 0)), (1, .int p0), (2, .int p1), (3, .int (x3 + 1))]) X dX4_lose_95 rfl rfl (Nat.le_of_ble_eq_true rfl) [1, 2, 3, 0] rfl ?_
            refine v_goto (pc := 98) X 32 dX4_lose_98 (by decide) ?_
            exact ih (x3 + 1) (upd vba (x3).toNatClampNeg 1) ((cnt_in hvo.1 (by omega) hI c_37).2) (by simpa only [FX4_lose_32_x3, FX4_lose_32_vba, if_neg c_37, if_neg c_51] using hK)
          · refine v_aload_n (pc := 54) X dX4_lose_54 0 rfl ?_
            refine v_get (pc := 55) (k := 10) (i := 5) X dX4_lose_55 (fun _ h => List.mem_cons_of_mem _ (List.mem_append_right _ h)) 0 rfl rfl (Nat.le_of_ble_eq_true rfl) rfl rfl rfl ?_
            refine v_iload_n (pc := 58) X dX4_lose_58 3 rfl ?_
            refine v_iald (pc := 59) X dX4_lose_59 8 rfl hx3 rfl ?_
            refine v_iload_n (pc := 60) X dX4_lose_60 1 rfl ?_
            refine v_icmp_ne (pc := 61) X 93 dX4_lose_61 (by decide) (fun c_61 => ?_) (fun c_61 => ?_)
            · refine v_iconst (pc := 93) (v := 0) X dX4_lose_93 (by decide) ?_
              refine v_zast (pc := 94) (ws' := (wM G am mmi mwo mfa mre men mbY mbg (upd mlo (p0).toNatClampNeg 1) mnb mvo mho mro mwe mwi (upd vba (x3).toNatClampNeg 0) mkp mth msg mns (f_X4_goes_mtw (f_X4_isPerson_r p0) (f_X4_in_r p1 0 mmi) 1))) X dX4_lose_94 12 rfl hx3 rfl ?_
              refine v_iinc (pc := 95) (k := 3) (v := (x3 + 1)) (lv' := [(0, .ref (am 0)), (1, .int p0), (2, .int p1), (3, .int (x3 + 1))]) X dX4_lose_95 rfl rfl (Nat.le_of_ble_eq_true rfl) [1, 2, 3, 0] rfl ?_
              refine v_goto (pc := 98) X 32 dX4_lose_98 (by decide) ?_
              exact ih (x3 + 1) (upd vba (x3).toNatClampNeg 0) ((cnt_in hvo.1 (by omega) hI c_37).2) (by simpa only [FX4_lose_32_x3, FX4_lose_32_vba, if_neg c_37, if_pos c_51, if_neg c_61] using hK)
            · refine v_aload_n (pc := 64) X dX4_lose_64 0 rfl ?_
              refine v_get (pc := 65) (k := 13) (i := 6) X dX4_lose_65 (fun _ h => List.mem_cons_of_mem _ (List.mem_append_right _ h)) 0 rfl rfl (Nat.le_of_ble_eq_true rfl) rfl rfl rfl ?_
              refine v_iload_n (pc := 68) X dX4_lose_68 3 rfl ?_
              refine v_iald (pc := 69) X dX4_lose_69 11 rfl hx3 rfl ?_
              refine v_aload_n (pc := 70) X dX4_lose_70 0 rfl ?_
              refine v_get (pc := 71) (k := 6) (i := 7) X dX4_lose_71 (fun _ h => List.mem_cons_of_mem _ (List.mem_append_right _ h)) 0 rfl rfl (Nat.le_of_ble_eq_true rfl) rfl rfl rfl ?_
              refine v_iload_n (pc := 74) X dX4_lose_74 1 rfl ?_
              refine v_iald (pc := 75) X dX4_lose_75 6 rfl pin rfl ?_
              refine v_icmp_ne (pc := 76) X 93 dX4_lose_76 (by decide) (fun c_76 => ?_) (fun c_76 => ?_)
              · refine v_iconst (pc := 93) (v := 0) X dX4_lose_93 (by decide) ?_
                refine v_zast (pc := 94) (ws' := (wM G am mmi mwo mfa mre men mbY mbg (upd mlo (p0).toNatClampNeg 1) mnb mvo mho mro mwe mwi (upd vba (x3).toNatClampNeg 0) mkp mth msg mns (f_X4_goes_mtw (f_X4_isPerson_r p0) (f_X4_in_r p1 0 mmi) 1))) X dX4_lose_94 12 rfl hx3 rfl ?_
                refine v_iinc (pc := 95) (k := 3) (v := (x3 + 1)) (lv' := [(0, .ref (am 0)), (1, .int p0), (2, .int p1), (3, .int (x3 + 1))]) X dX4_lose_95 rfl rfl (Nat.le_of_ble_eq_true rfl) [1, 2, 3, 0] rfl ?_
                refine v_goto (pc := 98) X 32 dX4_lose_98 (by decide) ?_
                exact ih (x3 + 1) (upd vba (x3).toNatClampNeg 0) ((cnt_in hvo.1 (by omega) hI c_37).2) (by simpa only [FX4_lose_32_x3, FX4_lose_32_vba, if_neg c_37, if_pos c_51, if_pos c_61, if_neg c_76] using hK)
              · refine v_aload_n (pc := 79) X dX4_lose_79 0 rfl ?_
                refine v_get (pc := 80) (k := 12) (i := 8) X dX4_lose_80 (fun _ h => List.mem_cons_of_mem _ (List.mem_append_right _ h)) 0 rfl rfl (Nat.le_of_ble_eq_true rfl) rfl rfl rfl ?_
                refine v_iload_n (pc := 83) X dX4_lose_83 3 rfl ?_
                refine v_iald (pc := 84) X dX4_lose_84 10 rfl hx3 rfl ?_
                refine v_iload_n (pc := 85) X dX4_lose_85 2 rfl ?_
                refine v_icmp_lt (pc := 86) X 93 dX4_lose_86 (by decide) (fun c_86 => ?_) (fun c_86 => ?_)
                · refine v_iconst (pc := 93) (v := 0) X dX4_lose_93 (by decide) ?_
                  refine v_zast (pc := 94) (ws' := (wM G am mmi mwo mfa mre men mbY mbg (upd mlo (p0).toNatClampNeg 1) mnb mvo mho mro mwe mwi (upd vba (x3).toNatClampNeg 0) mkp mth msg mns (f_X4_goes_mtw (f_X4_isPerson_r p0) (f_X4_in_r p1 0 mmi) 1))) X dX4_lose_94 12 rfl hx3 rfl ?_
                  refine v_iinc (pc := 95) (k := 3) (v := (x3 + 1)) (lv' := [(0, .ref (am 0)), (1, .int p0), (2, .int p1), (3, .int (x3 + 1))]) X dX4_lose_95 rfl rfl (Nat.le_of_ble_eq_true rfl) [1, 2, 3, 0] rfl ?_
                  refine v_goto (pc := 98) X 32 dX4_lose_98 (by decide) ?_
                  exact ih (x3 + 1) (upd vba (x3).toNatClampNeg 0) ((cnt_in hvo.1 (by omega) hI c_37).2) (by simpa only [FX4_lose_32_x3, FX4_lose_32_vba, if_neg c_37, if_pos c_51, if_pos c_61, if_pos c_76, if_pos c_86] using hK)
                · refine v_iconst (pc := 89) (v := 1) X dX4_lose_89 (by decide) ?_
                  refine v_goto (pc := 90) X 94 dX4_lose_90 (by decide) ?_
                  refine v_zast (pc := 94) (ws' := (wM G am mmi mwo mfa mre men mbY mbg (upd mlo (p0).toNatClampNeg 1) mnb mvo mho mro mwe mwi (upd vba (x3).toNatClampNeg 1) mkp mth msg mns (f_X4_goes_mtw (f_X4_isPerson_r p0) (f_X4_in_r p1 0 mmi) 1))) X dX4_lose_94 12 rfl hx3 rfl ?_
                  refine v_iinc (pc := 95) (k := 3) (v := (x3 + 1)) (lv' := [(0, .ref (am 0)), (1, .int p0), (2, .int p1), (3, .int (x3 + 1))]) X dX4_lose_95 rfl rfl (Nat.le_of_ble_eq_true rfl) [1, 2, 3, 0] rfl ?_
                  refine v_goto (pc := 98) X 32 dX4_lose_98 (by decide) ?_
                  exact ih (x3 + 1) (upd vba (x3).toNatClampNeg 1) ((cnt_in hvo.1 (by omega) hI c_37).2) (by simpa only [FX4_lose_32_x3, FX4_lose_32_vba, if_neg c_37, if_pos c_51, if_pos c_61, if_pos c_76, if_neg c_86] using hK)
    refine LP32 ((mvo).toNatClampNeg + 1) 0 mba (⟨by rw [Nat.sub_self]; rfl, by omega, Nat.le_refl _⟩) ?_
    refine v_iconst (pc := 101) (v := 0) X dX4_lose_101 (by decide) ?_
    refine v_istore_n (pc := 102) (lv' := [(0, .ref (am 0)), (1, .int p0), (2, .int p1), (3, .int 0)]) X dX4_lose_102 rfl (Nat.le_of_ble_eq_true rfl) [1, 2, 3, 0] rfl ?_
    refine v_iconst (pc := 103) (v := 0) X dX4_lose_103 (by decide) ?_
    refine v_istore (pc := 104) (lv' := [(0, .ref (am 0)), (1, .int p0), (2, .int p1), (3, .int 0), (4, .int 0)]) X dX4_lose_104 (Nat.le_of_ble_eq_true rfl) [1, 2, 3, 4, 0] rfl ?_
    have LP106 : ∀ (n : Nat) (y3 : Int32) (y4 : Int32), (y4 = nI (12 + 1 - n) ∧ 1 ≤ n ∧ n ≤ 12 + 1) → V p l e (headSpec wsX4_lose { frames := 2, cells := 0, slots := 0, locals := 42 }).room s m args below meth c 5 G A 0 0 (QI below args s G A 0 0 (S := Unit) (fun x _ => x = (f_X4_lose_r mmi mbY mbg mlo mvo mho mwe mwi mba p0 p1)) (fun _ => (wM G am mmi mwo mfa mre men mbY mbg (f_X4_lose_mlo mmi mlo p0 p1) mnb mvo mho mro mwe mwi (f_X4_lose_mba mmi mbg mvo mho mwe mwi mba p0 p1) mkp mth msg mns (f_X4_lose_mtw mmi p0 p1)))) (wM G am mmi mwo mfa mre men mbY mbg (upd mlo (p0).toNatClampNeg 1) mnb mvo mho mro mwe mwi (FX4_lose_32_vba ((mvo).toNatClampNeg + 1) 0 mba mbg mvo mho mwe mwi p0 p1) mkp mth msg mns (f_X4_goes_mtw (f_X4_isPerson_r p0) (f_X4_in_r p1 0 mmi) 1)) [(0, .ref (am 0)), (1, .int p0), (2, .int p1), (3, .int (FX4_lose_106_y3 n y3 y4 mbY mbg mlo mvo mho mwe mwi mba p0 p1)), (4, .int (FX4_lose_106_y4 n y3 y4 mbY mbg mlo mvo mho mwe mwi mba p0 p1))] 136 [] → V p l e (headSpec wsX4_lose { frames := 2, cells := 0, slots := 0, locals := 42 }).room s m args below meth c 5 G A 0 0 (QI below args s G A 0 0 (S := Unit) (fun x _ => x = (f_X4_lose_r mmi mbY mbg mlo mvo mho mwe mwi mba p0 p1)) (fun _ => (wM G am mmi mwo mfa mre men mbY mbg (f_X4_lose_mlo mmi mlo p0 p1) mnb mvo mho mro mwe mwi (f_X4_lose_mba mmi mbg mvo mho mwe mwi mba p0 p1) mkp mth msg mns (f_X4_lose_mtw mmi p0 p1)))) (wM G am mmi mwo mfa mre men mbY mbg (upd mlo (p0).toNatClampNeg 1) mnb mvo mho mro mwe mwi (FX4_lose_32_vba ((mvo).toNatClampNeg + 1) 0 mba mbg mvo mho mwe mwi p0 p1) mkp mth msg mns (f_X4_goes_mtw (f_X4_isPerson_r p0) (f_X4_in_r p1 0 mmi) 1)) [(0, .ref (am 0)), (1, .int p0), (2, .int p1), (3, .int y3), (4, .int y4)] 106 [] := by
      intro n
      induction n with
      | zero => intro y3 y4 hI hK; exact False.elim (by omega)
      | succ n ih =>
        intro y3 y4 hI hK
        refine v_iload (pc := 106) X dX4_lose_106 4 rfl ?_
        refine v_bipush (pc := 108) (v := 12) X dX4_lose_108 (by decide) ?_
        refine v_icmp_ge (pc := 110) X 136 dX4_lose_110 (by decide) (fun c_110 => ?_) (fun c_110 => ?_)
        · simpa only [FX4_lose_106_y3, FX4_lose_106_y4, if_pos c_110] using hK
        · have hi_y4 : vp_in y4 12 := (cnt_in (by decide) (by decide) hI c_110).1
          refine v_iload_n (pc := 113) X dX4_lose_113 3 rfl ?_
          refine v_aload_n (pc := 114) X dX4_lose_114 0 rfl ?_
          refine v_iload (pc := 115) X dX4_lose_115 4 rfl ?_
          refine v_eV (pc := 117) (rest := [.int y3]) (n := 1) (wr := ([] : va_W)) (wn := (wM G am mmi mwo mfa mre men mbY mbg (upd mlo (p0).toNatClampNeg 1) mnb mvo mho mro mwe mwi (FX4_lose_32_vba ((mvo).toNatClampNeg + 1) 0 mba mbg mvo mho mwe mwi p0 p1) mkp mth msg mns (f_X4_goes_mtw (f_X4_isPerson_r p0) (f_X4_in_r p1 0 mmi) 1))) (isC := [0, 1, 2, 3, 4, 5, 6, 7, 8, 9, 10, 11, 12, 13, 14, 15]) (isR := []) (isP := [0, 1, 2, 3, 4, 5, 6, 7, 8, 9, 10, 11, 12, 13, 14, 15]) X (c_X4_isTainted l G am mmi mwo mfa mre men mbY mbg (upd mlo (p0).toNatClampNeg 1) mnb mvo mho mro mwe mwi (FX4_lose_32_vba ((mvo).toNatClampNeg + 1) 0 mba mbg mvo mho mwe mwi p0 p1) mkp mth msg mns (f_X4_goes_mtw (f_X4_isPerson_r p0) (f_X4_in_r p1 0 mmi) 1) y4 hi_y4 hby hho (bl_upd hlo _ 1 (Or.inr rfl))) gX4_lose_X4_isTainted rfl rfl rfl (by decide +kernel) ⟨Nat.le_of_ble_eq_true rfl, Nat.le_of_ble_eq_true rfl⟩ dX4_lose_117 rfl rfl (Nat.le_of_ble_eq_true rfl) ⟨Nat.le_of_ble_eq_true rfl, Nat.le_of_ble_eq_true rfl⟩ 0 rfl rfl ⟨rfl, rfl, rfl, rfl, by decide, rfl, rfl⟩ ?_
          refine v_if_eq (pc := 120) X 127 dX4_lose_120 (by decide) (fun c_120 => ?_) (fun c_120 => ?_)
          · refine v_iconst (pc := 127) (v := 0) X dX4_lose_127 (by decide) ?_
            refine v_iadd (pc := 128) X dX4_lose_128 rfl ?_
            refine v_istore_n (pc := 129) (lv' := [(0, .ref (am 0)), (1, .int p0), (2, .int p1), (3, .int (y3 + 0)), (4, .int y4)]) X dX4_lose_129 rfl (Nat.le_of_ble_eq_true rfl) [1, 2, 3, 0, 4] rfl ?_
            refine v_iinc (pc := 130) (k := 4) (v := (y4 + 1)) (lv' := [(0, .ref (am 0)), (1, .int p0), (2, .int p1), (3, .int (y3 + 0)), (4, .int (y4 + 1))]) X dX4_lose_130 rfl rfl (Nat.le_of_ble_eq_true rfl) [1, 2, 3, 4, 0] rfl ?_
            refine v_goto (pc := 133) X 106 dX4_lose_133 (by decide) ?_
            exact ih (y3 + 0) (y4 + 1) ((cnt_in (by decide) (by decide) hI c_110).2) (by simpa only [FX4_lose_106_y3, FX4_lose_106_y4, if_neg c_110, if_pos c_120] using hK)
          · refine v_iconst (pc := 123) (v := 1) X dX4_lose_123 (by decide) ?_
            refine v_goto (pc := 124) X 128 dX4_lose_124 (by decide) ?_
            refine v_iadd (pc := 128) X dX4_lose_128 rfl ?_
            refine v_istore_n (pc := 129) (lv' := [(0, .ref (am 0)), (1, .int p0), (2, .int p1), (3, .int (y3 + 1)), (4, .int y4)]) X dX4_lose_129 rfl (Nat.le_of_ble_eq_true rfl) [1, 2, 3, 0, 4] rfl ?_
            refine v_iinc (pc := 130) (k := 4) (v := (y4 + 1)) (lv' := [(0, .ref (am 0)), (1, .int p0), (2, .int p1), (3, .int (y3 + 1)), (4, .int (y4 + 1))]) X dX4_lose_130 rfl rfl (Nat.le_of_ble_eq_true rfl) [1, 2, 3, 4, 0] rfl ?_
            refine v_goto (pc := 133) X 106 dX4_lose_133 (by decide) ?_
            exact ih (y3 + 1) (y4 + 1) ((cnt_in (by decide) (by decide) hI c_110).2) (by simpa only [FX4_lose_106_y3, FX4_lose_106_y4, if_neg c_110, if_neg c_120] using hK)
    refine LP106 13 0 0 (⟨by decide, by decide, by decide⟩) ?_
    refine v_iload_n (pc := 136) X dX4_lose_136 3 rfl ?_
    exact v_iret (pc := 137) X hr dX4_lose_137 () (by show (wM G am mmi mwo mfa mre men mbY mbg (upd mlo (p0).toNatClampNeg 1) mnb mvo mho mro mwe mwi (FX4_lose_32_vba ((mvo).toNatClampNeg + 1) 0 mba mbg mvo mho mwe mwi p0 p1) mkp mth msg mns (f_X4_goes_mtw (f_X4_isPerson_r p0) (f_X4_in_r p1 0 mmi) 1)) = (wM G am mmi mwo mfa mre men mbY mbg (f_X4_lose_mlo mmi mlo p0 p1) mnb mvo mho mro mwe mwi (f_X4_lose_mba mmi mbg mvo mho mwe mwi mba p0 p1) mkp mth msg mns (f_X4_lose_mtw mmi p0 p1)); simp only [f_X4_lose_mlo, f_X4_lose_mba, f_X4_lose_mtw, if_neg c_18]) (by show (FX4_lose_106_y3 13 0 0 mbY mbg mlo mvo mho mwe mwi mba p0 p1) = (f_X4_lose_r mmi mbY mbg mlo mvo mho mwe mwi mba p0 p1); simp only [f_X4_lose_r, if_neg c_18])
  · refine v_iconst (pc := 21) (v := 0) X dX4_lose_21 (by decide) ?_
    exact v_iret (pc := 22) X hr dX4_lose_22 () (by show (wM G am mmi mwo mfa mre men mbY mbg mlo mnb mvo mho mro mwe mwi mba mkp mth msg mns (f_X4_goes_mtw (f_X4_isPerson_r p0) (f_X4_in_r p1 0 mmi) 1)) = (wM G am mmi mwo mfa mre men mbY mbg (f_X4_lose_mlo mmi mlo p0 p1) mnb mvo mho mro mwe mwi (f_X4_lose_mba mmi mbg mvo mho mwe mwi mba p0 p1) mkp mth msg mns (f_X4_lose_mtw mmi p0 p1)); simp only [f_X4_lose_mlo, f_X4_lose_mba, f_X4_lose_mtw, if_pos c_18]) (by show 0 = (f_X4_lose_r mmi mbY mbg mlo mvo mho mwe mwi mba p0 p1); simp only [f_X4_lose_r, if_pos c_18])
def f_X4_issue_r (mnb : Int32) (p0 : Int32) : Int32 := (if (f_X4_goes_r (f_X4_isPerson_r p0) 1 1) = 0 then 0 else ((mnb + 1) - 1))
def f_X4_issue_mbg (mbg : Nat → Int32) (mnb : Int32) (p0 : Int32) : Nat → Int32 := (if (f_X4_goes_r (f_X4_isPerson_r p0) 1 1) = 0 then mbg else (upd mbg (p0).toNatClampNeg mnb))
def f_X4_issue_mlo (mlo : Nat → Int32) (p0 : Int32) : Nat → Int32 := (if (f_X4_goes_r (f_X4_isPerson_r p0) 1 1) = 0 then mlo else (upd mlo (p0).toNatClampNeg 0))
def f_X4_issue_mnb (mnb : Int32) (p0 : Int32) : Int32 := (if (f_X4_goes_r (f_X4_isPerson_r p0) 1 1) = 0 then mnb else (mnb + 1))
def f_X4_issue_mtw (p0 : Int32) : Int32 := (f_X4_goes_mtw (f_X4_isPerson_r p0) 1 1)
set_option maxHeartbeats 4000000 in
set_option maxRecDepth 100000 in
theorem c_X4_issue (l : Launch) (G : va_G) (am : Nat → Nat) (mmi : Int32) (mwo : Nat → Int32) (mfa : Nat → Int32) (mre : Nat → Int32) (men : Nat → Int32) (mbY : Nat → Int32) (mbg : Nat → Int32) (mlo : Nat → Int32) (mnb : Int32) (mvo : Int32) (mho : Nat → Int32) (mro : Nat → Int32) (mwe : Nat → Int32) (mwi : Nat → Int32) (mba : Nat → Int32) (mkp : Nat → Int32) (mth : Nat → Int32) (msg : Nat → Int32) (mns : Int32) (mtw : Int32) (p0 : Int32) : Ke l yX4_issue wsX4_issue { frames := 2, cells := 0, slots := 0, locals := 42 } 0 0 G (wM G am mmi mwo mfa mre men mbY mbg mlo mnb mvo mho mro mwe mwi mba mkp mth msg mns mtw) [.ref (am 0), .int p0] (f_X4_issue_r mnb p0) (wM G am mmi mwo mfa mre men mbY (f_X4_issue_mbg mbg mnb p0) (f_X4_issue_mlo mlo p0) (f_X4_issue_mnb mnb p0) mvo mho mro mwe mwi mba mkp mth msg mns (f_X4_issue_mtw p0)) := by
  refine v_ofi (cc := cX4_issue) (nL := 2) (lv := [(0, .ref (am 0)), (1, .int p0)]) (by decide) rfl (Nat.le_of_ble_eq_true rfl) rfl ?_
  intro p e s m args below meth c A X hr
  refine v_aload_n (pc := 0) X dX4_issue_0 0 rfl ?_
  refine v_iload_n (pc := 1) X dX4_issue_1 1 rfl ?_
  refine v_e0S (pc := 2) (rest := [.ref (am 0)]) (n := 1) X (c_X4_isPerson l G p0) gX4_issue_X4_isPerson rfl rfl rfl (by decide +kernel) ⟨Nat.le_of_ble_eq_true rfl, Nat.le_of_ble_eq_true rfl⟩ dX4_issue_2 rfl rfl (Nat.le_of_ble_eq_true rfl) ⟨Nat.le_of_ble_eq_true rfl, Nat.le_of_ble_eq_true rfl⟩ ?_
  refine v_iconst (pc := 5) (v := 1) X dX4_issue_5 (by decide) ?_
  refine v_iconst (pc := 6) (v := 1) X dX4_issue_6 (by decide) ?_
  refine v_eV (pc := 7) (rest := []) (n := 3) (wr := ([] : va_W)) (wn := (wM G am mmi mwo mfa mre men mbY mbg mlo mnb mvo mho mro mwe mwi mba mkp mth msg mns (f_X4_goes_mtw (f_X4_isPerson_r p0) 1 1))) (isC := [0, 1, 2, 3, 4, 5, 6, 7, 8, 9, 10, 11, 12, 13, 14, 15]) (isR := []) (isP := [0, 1, 2, 3, 4, 5, 6, 7, 8, 9, 10, 11, 12, 13, 14, 15]) X (c_X4_goes l G am mmi mwo mfa mre men mbY mbg mlo mnb mvo mho mro mwe mwi mba mkp mth msg mns mtw (f_X4_isPerson_r p0) 1 1) gX4_issue_X4_goes rfl rfl rfl (by decide +kernel) ⟨Nat.le_of_ble_eq_true rfl, Nat.le_of_ble_eq_true rfl⟩ dX4_issue_7 rfl rfl (Nat.le_of_ble_eq_true rfl) ⟨Nat.le_of_ble_eq_true rfl, Nat.le_of_ble_eq_true rfl⟩ 0 rfl rfl ⟨rfl, rfl, rfl, rfl, by decide, rfl, rfl⟩ ?_
  refine v_if_ne (pc := 10) X 15 dX4_issue_10 (by decide) (fun c_10 => ?_) (fun c_10 => ?_)
  · have pin : vp_in p0 12 := mper_in (go1 c_10)
    refine v_aload_n (pc := 15) X dX4_issue_15 0 rfl ?_
    refine v_get (pc := 16) (k := 6) (i := 1) X dX4_issue_16 (fun _ h => List.mem_cons_of_mem _ (List.mem_append_right _ h)) 0 rfl rfl (Nat.le_of_ble_eq_true rfl) rfl rfl rfl ?_
    refine v_iload_n (pc := 19) X dX4_issue_19 1 rfl ?_
    refine v_aload_n (pc := 20) X dX4_issue_20 0 rfl ?_
    refine v_get (pc := 21) (k := 8) (i := 2) X dX4_issue_21 (fun _ h => List.mem_cons_of_mem _ (List.mem_append_right _ h)) 0 rfl rfl (Nat.le_of_ble_eq_true rfl) rfl rfl rfl ?_
    refine v_iast (pc := 24) (ws' := (wM G am mmi mwo mfa mre men mbY (upd mbg (p0).toNatClampNeg mnb) mlo mnb mvo mho mro mwe mwi mba mkp mth msg mns (f_X4_goes_mtw (f_X4_isPerson_r p0) 1 1))) X dX4_issue_24 6 rfl pin rfl ?_
    refine v_aload_n (pc := 25) X dX4_issue_25 0 rfl ?_
    refine v_get (pc := 26) (k := 7) (i := 3) X dX4_issue_26 (fun _ h => List.mem_cons_of_mem _ (List.mem_append_right _ h)) 0 rfl rfl (Nat.le_of_ble_eq_true rfl) rfl rfl rfl ?_
    refine v_iload_n (pc := 29) X dX4_issue_29 1 rfl ?_
    refine v_iconst (pc := 30) (v := 0) X dX4_issue_30 (by decide) ?_
    refine v_zast (pc := 31) (ws' := (wM G am mmi mwo mfa mre men mbY (upd mbg (p0).toNatClampNeg mnb) (upd mlo (p0).toNatClampNeg 0) mnb mvo mho mro mwe mwi mba mkp mth msg mns (f_X4_goes_mtw (f_X4_isPerson_r p0) 1 1))) X dX4_issue_31 7 rfl pin rfl ?_
    refine v_aload_n (pc := 32) X dX4_issue_32 0 rfl ?_
    refine v_dup (pc := 33) X dX4_issue_33 rfl ?_
    refine v_get (pc := 34) (k := 8) (i := 2) X dX4_issue_34 (fun _ h => List.mem_cons_of_mem _ (List.mem_append_right _ h)) 0 rfl rfl (Nat.le_of_ble_eq_true rfl) rfl rfl rfl ?_
    refine v_iconst (pc := 37) (v := 1) X dX4_issue_37 (by decide) ?_
    refine v_iadd (pc := 38) X dX4_issue_38 rfl ?_
    refine v_put (pc := 39) (k := 8) (i := 2) (ws' := (wM G am mmi mwo mfa mre men mbY (upd mbg (p0).toNatClampNeg mnb) (upd mlo (p0).toNatClampNeg 0) (mnb + 1) mvo mho mro mwe mwi mba mkp mth msg mns (f_X4_goes_mtw (f_X4_isPerson_r p0) 1 1))) X dX4_issue_39 (fun _ h => List.mem_cons_of_mem _ (List.mem_append_right _ h)) tyX4_ok nmX4 0 rfl rfl (Nat.le_of_ble_eq_true rfl) rfl rfl (Or.inl rfl) rfl (rfl) rfl (Nat.le_of_ble_eq_true rfl) rfl ?_
    refine v_aload_n (pc := 42) X dX4_issue_42 0 rfl ?_
    refine v_get (pc := 43) (k := 8) (i := 2) X dX4_issue_43 (fun _ h => List.mem_cons_of_mem _ (List.mem_append_right _ h)) 0 rfl rfl (Nat.le_of_ble_eq_true rfl) rfl rfl rfl ?_
    refine v_iconst (pc := 46) (v := 1) X dX4_issue_46 (by decide) ?_
    refine v_isub (pc := 47) X dX4_issue_47 rfl ?_
    exact v_iret (pc := 48) X hr dX4_issue_48 () (by show (wM G am mmi mwo mfa mre men mbY (upd mbg (p0).toNatClampNeg mnb) (upd mlo (p0).toNatClampNeg 0) (mnb + 1) mvo mho mro mwe mwi mba mkp mth msg mns (f_X4_goes_mtw (f_X4_isPerson_r p0) 1 1)) = (wM G am mmi mwo mfa mre men mbY (f_X4_issue_mbg mbg mnb p0) (f_X4_issue_mlo mlo p0) (f_X4_issue_mnb mnb p0) mvo mho mro mwe mwi mba mkp mth msg mns (f_X4_issue_mtw p0)); simp only [f_X4_issue_mbg, f_X4_issue_mlo, f_X4_issue_mnb, f_X4_issue_mtw, if_neg c_10]) (by show ((mnb + 1) - 1) = (f_X4_issue_r mnb p0); simp only [f_X4_issue_r, if_neg c_10])
  · refine v_iconst (pc := 13) (v := 0) X dX4_issue_13 (by decide) ?_
    exact v_iret (pc := 14) X hr dX4_issue_14 () (by show (wM G am mmi mwo mfa mre men mbY mbg mlo mnb mvo mho mro mwe mwi mba mkp mth msg mns (f_X4_goes_mtw (f_X4_isPerson_r p0) 1 1)) = (wM G am mmi mwo mfa mre men mbY (f_X4_issue_mbg mbg mnb p0) (f_X4_issue_mlo mlo p0) (f_X4_issue_mnb mnb p0) mvo mho mro mwe mwi mba mkp mth msg mns (f_X4_issue_mtw p0)); simp only [f_X4_issue_mbg, f_X4_issue_mlo, f_X4_issue_mnb, f_X4_issue_mtw, if_pos c_10]) (by show 0 = (f_X4_issue_r mnb p0); simp only [f_X4_issue_r, if_pos c_10])
def f_X4_door_r (mbY : Nat → Int32) (mlo : Nat → Int32) (mho : Nat → Int32) (mro : Nat → Int32) (mba : Nat → Int32) (p0 : Int32) (p1 : Int32) : Int32 := (if (f_X4_isPerson_r p0) = 0 then 0 else (if (f_X4_in_r p1 0 5) = 0 then 0 else (if (f_X4_goes_r 1 1 1) = 0 then 0 else (if (((f_X4_roomsOf_r mbY mho mro p0) >>> (p1 &&& 31)) &&& 1) = 1 then (if (f_X4_isTainted_r mbY mlo mho mba p0) = 0 then 1 else 0) else 0))))
def f_X4_door_mtw (p0 : Int32) (p1 : Int32) : Int32 := (if (f_X4_isPerson_r p0) = 0 then (f_X4_goes_mtw 0 1 1) else (if (f_X4_in_r p1 0 5) = 0 then (f_X4_goes_mtw 0 1 1) else (f_X4_goes_mtw 1 1 1)))
set_option maxHeartbeats 4000000 in
set_option maxRecDepth 100000 in
theorem c_X4_door (l : Launch) (G : va_G) (am : Nat → Nat) (mmi : Int32) (mwo : Nat → Int32) (mfa : Nat → Int32) (mre : Nat → Int32) (men : Nat → Int32) (mbY : Nat → Int32) (mbg : Nat → Int32) (mlo : Nat → Int32) (mnb : Int32) (mvo : Int32) (mho : Nat → Int32) (mro : Nat → Int32) (mwe : Nat → Int32) (mwi : Nat → Int32) (mba : Nat → Int32) (mkp : Nat → Int32) (mth : Nat → Int32) (msg : Nat → Int32) (mns : Int32) (mtw : Int32) (p0 : Int32) (p1 : Int32) (hby : ∀ j : Nat, j < 12 → mbY j = -1 ∨ vp_in (mbY j) 100) (hho : ∀ j : Nat, j < 100 → vp_in (mho j) 12) (hlo : ∀ j : Nat, j < 12 → mlo j = 0 ∨ mlo j = 1) : Ke l yX4_door wsX4_door { frames := 3, cells := 0, slots := 0, locals := 67 } 0 0 G (wM G am mmi mwo mfa mre men mbY mbg mlo mnb mvo mho mro mwe mwi mba mkp mth msg mns mtw) [.ref (am 0), .int p0, .int p1] (f_X4_door_r mbY mlo mho mro mba p0 p1) (wM G am mmi mwo mfa mre men mbY mbg mlo mnb mvo mho mro mwe mwi mba mkp mth msg mns (f_X4_door_mtw p0 p1)) := by
  refine v_ofi (cc := cX4_door) (nL := 3) (lv := [(0, .ref (am 0)), (1, .int p0), (2, .int p1)]) (by decide) rfl (Nat.le_of_ble_eq_true rfl) rfl ?_
  intro p e s m args below meth c A X hr
  refine v_aload_n (pc := 0) X dX4_door_0 0 rfl ?_
  refine v_iload_n (pc := 1) X dX4_door_1 1 rfl ?_
  refine v_e0S (pc := 2) (rest := [.ref (am 0)]) (n := 1) X (c_X4_isPerson l G p0) gX4_door_X4_isPerson rfl rfl rfl (by decide +kernel) ⟨Nat.le_of_ble_eq_true rfl, Nat.le_of_ble_eq_true rfl⟩ dX4_door_2 rfl rfl (Nat.le_of_ble_eq_true rfl) ⟨Nat.le_of_ble_eq_true rfl, Nat.le_of_ble_eq_true rfl⟩ ?_
  refine v_if_eq (pc := 5) X 21 dX4_door_5 (by decide) (fun c_5 => ?_) (fun c_5 => ?_)
  · refine v_iconst (pc := 21) (v := 0) X dX4_door_21 (by decide) ?_
    refine v_iconst (pc := 22) (v := 1) X dX4_door_22 (by decide) ?_
    refine v_iconst (pc := 23) (v := 1) X dX4_door_23 (by decide) ?_
    refine v_eV (pc := 24) (rest := []) (n := 3) (wr := ([] : va_W)) (wn := (wM G am mmi mwo mfa mre men mbY mbg mlo mnb mvo mho mro mwe mwi mba mkp mth msg mns (f_X4_goes_mtw 0 1 1))) (isC := [0, 1, 2, 3, 4, 5, 6, 7, 8, 9, 10, 11, 12, 13, 14, 15]) (isR := []) (isP := [0, 1, 2, 3, 4, 5, 6, 7, 8, 9, 10, 11, 12, 13, 14, 15]) X (c_X4_goes l G am mmi mwo mfa mre men mbY mbg mlo mnb mvo mho mro mwe mwi mba mkp mth msg mns mtw 0 1 1) gX4_door_X4_goes rfl rfl rfl (by decide +kernel) ⟨Nat.le_of_ble_eq_true rfl, Nat.le_of_ble_eq_true rfl⟩ dX4_door_24 rfl rfl (Nat.le_of_ble_eq_true rfl) ⟨Nat.le_of_ble_eq_true rfl, Nat.le_of_ble_eq_true rfl⟩ 0 rfl rfl ⟨rfl, rfl, rfl, rfl, by decide, rfl, rfl⟩ ?_
    refine v_if_ne (pc := 27) X 32 dX4_door_27 (by decide) (fun c_27 => ?_) (fun c_27 => ?_)
    · exact (go1 c_27 rfl).elim
    · refine v_iconst (pc := 30) (v := 0) X dX4_door_30 (by decide) ?_
      exact v_zret (pc := 31) X hr rfl dX4_door_31 () (by show (wM G am mmi mwo mfa mre men mbY mbg mlo mnb mvo mho mro mwe mwi mba mkp mth msg mns (f_X4_goes_mtw 0 1 1)) = (wM G am mmi mwo mfa mre men mbY mbg mlo mnb mvo mho mro mwe mwi mba mkp mth msg mns (f_X4_door_mtw p0 p1)); simp only [f_X4_door_mtw, if_pos c_5, if_pos c_27]) (by show 0 = (f_X4_door_r mbY mlo mho mro mba p0 p1); simp only [f_X4_door_r, if_pos c_5, if_pos c_27])
  · refine v_iload_n (pc := 8) X dX4_door_8 2 rfl ?_
    refine v_iconst (pc := 9) (v := 0) X dX4_door_9 (by decide) ?_
    refine v_iconst (pc := 10) (v := 5) X dX4_door_10 (by decide) ?_
    refine v_e0S (pc := 11) (rest := [.ref (am 0)]) (n := 3) X (c_X4_in l G p1 0 5) gX4_door_X4_in rfl rfl rfl (by decide +kernel) ⟨Nat.le_of_ble_eq_true rfl, Nat.le_of_ble_eq_true rfl⟩ dX4_door_11 rfl rfl (Nat.le_of_ble_eq_true rfl) ⟨Nat.le_of_ble_eq_true rfl, Nat.le_of_ble_eq_true rfl⟩ ?_
    refine v_if_eq (pc := 14) X 21 dX4_door_14 (by decide) (fun c_14 => ?_) (fun c_14 => ?_)
    · refine v_iconst (pc := 21) (v := 0) X dX4_door_21 (by decide) ?_
      refine v_iconst (pc := 22) (v := 1) X dX4_door_22 (by decide) ?_
      refine v_iconst (pc := 23) (v := 1) X dX4_door_23 (by decide) ?_
      refine v_eV (pc := 24) (rest := []) (n := 3) (wr := ([] : va_W)) (wn := (wM G am mmi mwo mfa mre men mbY mbg mlo mnb mvo mho mro mwe mwi mba mkp mth msg mns (f_X4_goes_mtw 0 1 1))) (isC := [0, 1, 2, 3, 4, 5, 6, 7, 8, 9, 10, 11, 12, 13, 14, 15]) (isR := []) (isP := [0, 1, 2, 3, 4, 5, 6, 7, 8, 9, 10, 11, 12, 13, 14, 15]) X (c_X4_goes l G am mmi mwo mfa mre men mbY mbg mlo mnb mvo mho mro mwe mwi mba mkp mth msg mns mtw 0 1 1) gX4_door_X4_goes rfl rfl rfl (by decide +kernel) ⟨Nat.le_of_ble_eq_true rfl, Nat.le_of_ble_eq_true rfl⟩ dX4_door_24 rfl rfl (Nat.le_of_ble_eq_true rfl) ⟨Nat.le_of_ble_eq_true rfl, Nat.le_of_ble_eq_true rfl⟩ 0 rfl rfl ⟨rfl, rfl, rfl, rfl, by decide, rfl, rfl⟩ ?_
      refine v_if_ne (pc := 27) X 32 dX4_door_27 (by decide) (fun c_27 => ?_) (fun c_27 => ?_)
      · exact (go1 c_27 rfl).elim
      · refine v_iconst (pc := 30) (v := 0) X dX4_door_30 (by decide) ?_
        exact v_zret (pc := 31) X hr rfl dX4_door_31 () (by show (wM G am mmi mwo mfa mre men mbY mbg mlo mnb mvo mho mro mwe mwi mba mkp mth msg mns (f_X4_goes_mtw 0 1 1)) = (wM G am mmi mwo mfa mre men mbY mbg mlo mnb mvo mho mro mwe mwi mba mkp mth msg mns (f_X4_door_mtw p0 p1)); simp only [f_X4_door_mtw, if_neg c_5, if_pos c_14, if_pos c_27]) (by show 0 = (f_X4_door_r mbY mlo mho mro mba p0 p1); simp only [f_X4_door_r, if_neg c_5, if_pos c_14, if_pos c_27])
    · refine v_iconst (pc := 17) (v := 1) X dX4_door_17 (by decide) ?_
      refine v_goto (pc := 18) X 22 dX4_door_18 (by decide) ?_
      refine v_iconst (pc := 22) (v := 1) X dX4_door_22 (by decide) ?_
      refine v_iconst (pc := 23) (v := 1) X dX4_door_23 (by decide) ?_
      refine v_eV (pc := 24) (rest := []) (n := 3) (wr := ([] : va_W)) (wn := (wM G am mmi mwo mfa mre men mbY mbg mlo mnb mvo mho mro mwe mwi mba mkp mth msg mns (f_X4_goes_mtw 1 1 1))) (isC := [0, 1, 2, 3, 4, 5, 6, 7, 8, 9, 10, 11, 12, 13, 14, 15]) (isR := []) (isP := [0, 1, 2, 3, 4, 5, 6, 7, 8, 9, 10, 11, 12, 13, 14, 15]) X (c_X4_goes l G am mmi mwo mfa mre men mbY mbg mlo mnb mvo mho mro mwe mwi mba mkp mth msg mns mtw 1 1 1) gX4_door_X4_goes rfl rfl rfl (by decide +kernel) ⟨Nat.le_of_ble_eq_true rfl, Nat.le_of_ble_eq_true rfl⟩ dX4_door_24 rfl rfl (Nat.le_of_ble_eq_true rfl) ⟨Nat.le_of_ble_eq_true rfl, Nat.le_of_ble_eq_true rfl⟩ 0 rfl rfl ⟨rfl, rfl, rfl, rfl, by decide, rfl, rfl⟩ ?_
      refine v_if_ne (pc := 27) X 32 dX4_door_27 (by decide) (fun c_27 => ?_) (fun c_27 => ?_)
      · have pin : vp_in p0 12 := mper_in c_5
        refine v_aload_n (pc := 32) X dX4_door_32 0 rfl ?_
        refine v_iload_n (pc := 33) X dX4_door_33 1 rfl ?_
        refine v_eV (pc := 34) (rest := []) (n := 1) (wr := ([] : va_W)) (wn := (wM G am mmi mwo mfa mre men mbY mbg mlo mnb mvo mho mro mwe mwi mba mkp mth msg mns (f_X4_goes_mtw 1 1 1))) (isC := [0, 1, 2, 3, 4, 5, 6, 7, 8, 9, 10, 11, 12, 13, 14, 15]) (isR := []) (isP := [0, 1, 2, 3, 4, 5, 6, 7, 8, 9, 10, 11, 12, 13, 14, 15]) X (c_X4_roomsOf l G am mmi mwo mfa mre men mbY mbg mlo mnb mvo mho mro mwe mwi mba mkp mth msg mns (f_X4_goes_mtw 1 1 1) p0 pin hby hho) gX4_door_X4_roomsOf rfl rfl rfl (by decide +kernel) ⟨Nat.le_of_ble_eq_true rfl, Nat.le_of_ble_eq_true rfl⟩ dX4_door_34 rfl rfl (Nat.le_of_ble_eq_true rfl) ⟨Nat.le_of_ble_eq_true rfl, Nat.le_of_ble_eq_true rfl⟩ 0 rfl rfl ⟨rfl, rfl, rfl, rfl, by decide, rfl, rfl⟩ ?_
        refine v_iload_n (pc := 37) X dX4_door_37 2 rfl ?_
        refine v_ishr (pc := 38) X dX4_door_38 rfl ?_
        refine v_iconst (pc := 39) (v := 1) X dX4_door_39 (by decide) ?_
        refine v_iand (pc := 40) X dX4_door_40 rfl ?_
        refine v_iconst (pc := 41) (v := 1) X dX4_door_41 (by decide) ?_
        refine v_icmp_ne (pc := 42) X 57 dX4_door_42 (by decide) (fun c_42 => ?_) (fun c_42 => ?_)
        · refine v_iconst (pc := 57) (v := 0) X dX4_door_57 (by decide) ?_
          exact v_zret (pc := 58) X hr rfl dX4_door_58 () (by show (wM G am mmi mwo mfa mre men mbY mbg mlo mnb mvo mho mro mwe mwi mba mkp mth msg mns (f_X4_goes_mtw 1 1 1)) = (wM G am mmi mwo mfa mre men mbY mbg mlo mnb mvo mho mro mwe mwi mba mkp mth msg mns (f_X4_door_mtw p0 p1)); simp only [f_X4_door_mtw, if_neg c_5, if_neg c_14, if_neg c_27, if_neg c_42]) (by show 0 = (f_X4_door_r mbY mlo mho mro mba p0 p1); simp only [f_X4_door_r, if_neg c_5, if_neg c_14, if_neg c_27, if_neg c_42])
        · refine v_aload_n (pc := 45) X dX4_door_45 0 rfl ?_
          refine v_iload_n (pc := 46) X dX4_door_46 1 rfl ?_
          refine v_eV (pc := 47) (rest := []) (n := 1) (wr := ([] : va_W)) (wn := (wM G am mmi mwo mfa mre men mbY mbg mlo mnb mvo mho mro mwe mwi mba mkp mth msg mns (f_X4_goes_mtw 1 1 1))) (isC := [0, 1, 2, 3, 4, 5, 6, 7, 8, 9, 10, 11, 12, 13, 14, 15]) (isR := []) (isP := [0, 1, 2, 3, 4, 5, 6, 7, 8, 9, 10, 11, 12, 13, 14, 15]) X (c_X4_isTainted l G am mmi mwo mfa mre men mbY mbg mlo mnb mvo mho mro mwe mwi mba mkp mth msg mns (f_X4_goes_mtw 1 1 1) p0 pin hby hho hlo) gX4_door_X4_isTainted rfl rfl rfl (by decide +kernel) ⟨Nat.le_of_ble_eq_true rfl, Nat.le_of_ble_eq_true rfl⟩ dX4_door_47 rfl rfl (Nat.le_of_ble_eq_true rfl) ⟨Nat.le_of_ble_eq_true rfl, Nat.le_of_ble_eq_true rfl⟩ 0 rfl rfl ⟨rfl, rfl, rfl, rfl, by decide, rfl, rfl⟩ ?_
          refine v_if_ne (pc := 50) X 57 dX4_door_50 (by decide) (fun c_50 => ?_) (fun c_50 => ?_)
          · refine v_iconst (pc := 57) (v := 0) X dX4_door_57 (by decide) ?_
            exact v_zret (pc := 58) X hr rfl dX4_door_58 () (by show (wM G am mmi mwo mfa mre men mbY mbg mlo mnb mvo mho mro mwe mwi mba mkp mth msg mns (f_X4_goes_mtw 1 1 1)) = (wM G am mmi mwo mfa mre men mbY mbg mlo mnb mvo mho mro mwe mwi mba mkp mth msg mns (f_X4_door_mtw p0 p1)); simp only [f_X4_door_mtw, if_neg c_5, if_neg c_14, if_neg c_27, if_pos c_42, if_neg c_50]) (by show 0 = (f_X4_door_r mbY mlo mho mro mba p0 p1); simp only [f_X4_door_r, if_neg c_5, if_neg c_14, if_neg c_27, if_pos c_42, if_neg c_50])
          · refine v_iconst (pc := 53) (v := 1) X dX4_door_53 (by decide) ?_
            refine v_goto (pc := 54) X 58 dX4_door_54 (by decide) ?_
            exact v_zret (pc := 58) X hr rfl dX4_door_58 () (by show (wM G am mmi mwo mfa mre men mbY mbg mlo mnb mvo mho mro mwe mwi mba mkp mth msg mns (f_X4_goes_mtw 1 1 1)) = (wM G am mmi mwo mfa mre men mbY mbg mlo mnb mvo mho mro mwe mwi mba mkp mth msg mns (f_X4_door_mtw p0 p1)); simp only [f_X4_door_mtw, if_neg c_5, if_neg c_14, if_neg c_27, if_pos c_42, if_pos c_50]) (by show 1 = (f_X4_door_r mbY mlo mho mro mba p0 p1); simp only [f_X4_door_r, if_neg c_5, if_neg c_14, if_neg c_27, if_pos c_42, if_pos c_50])
      · refine v_iconst (pc := 30) (v := 0) X dX4_door_30 (by decide) ?_
        exact v_zret (pc := 31) X hr rfl dX4_door_31 () (by show (wM G am mmi mwo mfa mre men mbY mbg mlo mnb mvo mho mro mwe mwi mba mkp mth msg mns (f_X4_goes_mtw 1 1 1)) = (wM G am mmi mwo mfa mre men mbY mbg mlo mnb mvo mho mro mwe mwi mba mkp mth msg mns (f_X4_door_mtw p0 p1)); simp only [f_X4_door_mtw, if_neg c_5, if_neg c_14, if_pos c_27]) (by show 0 = (f_X4_door_r mbY mlo mho mro mba p0 p1); simp only [f_X4_door_r, if_neg c_5, if_neg c_14, if_pos c_27])
def FX4_ones_4_x1 : Nat → Int32 → Int32 → Int32 → Int32
  | 0, _, _, _ => 0
  | n + 1, x1, x2, p0 => (if 12 ≤ x2 then x1 else (FX4_ones_4_x1 n (x1 + ((p0 >>> (x2 &&& 31)) &&& 1)) (x2 + 1) p0))
def FX4_ones_4_x2 : Nat → Int32 → Int32 → Int32 → Int32
  | 0, _, _, _ => 0
  | n + 1, x1, x2, p0 => (if 12 ≤ x2 then x2 else (FX4_ones_4_x2 n (x1 + ((p0 >>> (x2 &&& 31)) &&& 1)) (x2 + 1) p0))
def f_X4_ones_r (p0 : Int32) : Int32 := (FX4_ones_4_x1 13 0 0 p0)
set_option maxHeartbeats 4000000 in
set_option maxRecDepth 100000 in
theorem c_X4_ones (l : Launch) (G : va_G) (p0 : Int32) : Ke l yX4_ones wsX4_ones { frames := 0, cells := 0, slots := 0, locals := 0 } 0 0 G ([] : va_W) [.int p0] (f_X4_ones_r p0) ([] : va_W) := by
  refine v_ofi (cc := cX4_ones) (nL := 3) (lv := [(0, .int p0)]) (by decide) rfl (Nat.le_of_ble_eq_true rfl) rfl ?_
  intro p e s m args below meth c A X hr
  refine v_iconst (pc := 0) (v := 0) X dX4_ones_0 (by decide) ?_
  refine v_istore_n (pc := 1) (lv' := [(0, .int p0), (1, .int 0)]) X dX4_ones_1 rfl (Nat.le_of_ble_eq_true rfl) [1, 0] rfl ?_
  refine v_iconst (pc := 2) (v := 0) X dX4_ones_2 (by decide) ?_
  refine v_istore_n (pc := 3) (lv' := [(0, .int p0), (1, .int 0), (2, .int 0)]) X dX4_ones_3 rfl (Nat.le_of_ble_eq_true rfl) [1, 2, 0] rfl ?_
  have LP4 : ∀ (n : Nat) (x1 : Int32) (x2 : Int32), (x2 = nI (12 + 1 - n) ∧ 1 ≤ n ∧ n ≤ 12 + 1) → V p l e (headSpec wsX4_ones { frames := 0, cells := 0, slots := 0, locals := 0 }).room s m args below meth c 3 G A 0 0 (QI below args s G A 0 0 (S := Unit) (fun x _ => x = (f_X4_ones_r p0)) (fun _ => ([] : va_W))) ([] : va_W) [(0, .int p0), (1, .int (FX4_ones_4_x1 n x1 x2 p0)), (2, .int (FX4_ones_4_x2 n x1 x2 p0))] 24 [] → V p l e (headSpec wsX4_ones { frames := 0, cells := 0, slots := 0, locals := 0 }).room s m args below meth c 3 G A 0 0 (QI below args s G A 0 0 (S := Unit) (fun x _ => x = (f_X4_ones_r p0)) (fun _ => ([] : va_W))) ([] : va_W) [(0, .int p0), (1, .int x1), (2, .int x2)] 4 [] := by
    intro n
    induction n with
    | zero => intro x1 x2 hI hK; exact False.elim (by omega)
    | succ n ih =>
      intro x1 x2 hI hK
      refine v_iload_n (pc := 4) X dX4_ones_4 2 rfl ?_
      refine v_bipush (pc := 5) (v := 12) X dX4_ones_5 (by decide) ?_
      refine v_icmp_ge (pc := 7) X 24 dX4_ones_7 (by decide) (fun c_7 => ?_) (fun c_7 => ?_)
      · simpa only [FX4_ones_4_x1, FX4_ones_4_x2, if_pos c_7] using hK
      · refine v_iload_n (pc := 10) X dX4_ones_10 1 rfl ?_
        refine v_iload_n (pc := 11) X dX4_ones_11 0 rfl ?_
        refine v_iload_n (pc := 12) X dX4_ones_12 2 rfl ?_
        refine v_ishr (pc := 13) X dX4_ones_13 rfl ?_
        refine v_iconst (pc := 14) (v := 1) X dX4_ones_14 (by decide) ?_
        refine v_iand (pc := 15) X dX4_ones_15 rfl ?_
        refine v_iadd (pc := 16) X dX4_ones_16 rfl ?_
        refine v_istore_n (pc := 17) (lv' := [(0, .int p0), (1, .int (x1 + ((p0 >>> (x2 &&& 31)) &&& 1))), (2, .int x2)]) X dX4_ones_17 rfl (Nat.le_of_ble_eq_true rfl) [1, 0, 2] rfl ?_
        refine v_iinc (pc := 18) (k := 2) (v := (x2 + 1)) (lv' := [(0, .int p0), (1, .int (x1 + ((p0 >>> (x2 &&& 31)) &&& 1))), (2, .int (x2 + 1))]) X dX4_ones_18 rfl rfl (Nat.le_of_ble_eq_true rfl) [1, 2, 0] rfl ?_
        refine v_goto (pc := 21) X 4 dX4_ones_21 (by decide) ?_
        exact ih (x1 + ((p0 >>> (x2 &&& 31)) &&& 1)) (x2 + 1) ((cnt_in (by decide) (by decide) hI c_7).2) (by simpa only [FX4_ones_4_x1, FX4_ones_4_x2, if_neg c_7] using hK)
  refine LP4 13 0 0 (⟨by decide, by decide, by decide⟩) ?_
  refine v_iload_n (pc := 24) X dX4_ones_24 1 rfl ?_
  exact v_iret (pc := 25) X hr dX4_ones_25 () rfl (by show (FX4_ones_4_x1 13 0 0 p0) = (f_X4_ones_r p0); simp only [f_X4_ones_r])
def f_X4_share_r (mth : Nat → Int32) (p0 : Int32) (p1 : Int32) (p2 : Int32) : Int32 := (if (f_X4_in_r p1 1 4095) = 0 then 0 else (if (f_X4_in_r p2 1 (f_X4_ones_r p1)) = 0 then 0 else (if (f_X4_goes_r (f_X4_isKey_r p0) 1 1) = 0 then 0 else (mth (p0).toNatClampNeg))))
def f_X4_share_mkp (mkp : Nat → Int32) (p0 : Int32) (p1 : Int32) (p2 : Int32) : Nat → Int32 := (if (f_X4_in_r p1 1 4095) = 0 then mkp else (if (f_X4_in_r p2 1 (f_X4_ones_r p1)) = 0 then mkp else (if (f_X4_goes_r (f_X4_isKey_r p0) 1 1) = 0 then mkp else (upd mkp (p0).toNatClampNeg p1))))
def f_X4_share_mth (mth : Nat → Int32) (p0 : Int32) (p1 : Int32) (p2 : Int32) : Nat → Int32 := (if (f_X4_in_r p1 1 4095) = 0 then mth else (if (f_X4_in_r p2 1 (f_X4_ones_r p1)) = 0 then mth else (if (f_X4_goes_r (f_X4_isKey_r p0) 1 1) = 0 then mth else (upd mth (p0).toNatClampNeg p2))))
def f_X4_share_mtw (p0 : Int32) (p1 : Int32) (p2 : Int32) : Int32 := (if (f_X4_in_r p1 1 4095) = 0 then (f_X4_goes_mtw (f_X4_isKey_r p0) 0 1) else (if (f_X4_in_r p2 1 (f_X4_ones_r p1)) = 0 then (f_X4_goes_mtw (f_X4_isKey_r p0) 0 1) else (f_X4_goes_mtw (f_X4_isKey_r p0) 1 1)))
set_option maxHeartbeats 4000000 in
set_option maxRecDepth 100000 in
theorem c_X4_share (l : Launch) (G : va_G) (am : Nat → Nat) (mmi : Int32) (mwo : Nat → Int32) (mfa : Nat → Int32) (mre : Nat → Int32) (men : Nat → Int32) (mbY : Nat → Int32) (mbg : Nat → Int32) (mlo : Nat → Int32) (mnb : Int32) (mvo : Int32) (mho : Nat → Int32) (mro : Nat → Int32) (mwe : Nat → Int32) (mwi : Nat → Int32) (mba : Nat → Int32) (mkp : Nat → Int32) (mth : Nat → Int32) (msg : Nat → Int32) (mns : Int32) (mtw : Int32) (p0 : Int32) (p1 : Int32) (p2 : Int32) : Ke l yX4_share wsX4_share { frames := 2, cells := 0, slots := 0, locals := 42 } 0 0 G (wM G am mmi mwo mfa mre men mbY mbg mlo mnb mvo mho mro mwe mwi mba mkp mth msg mns mtw) [.ref (am 0), .int p0, .int p1, .int p2] (f_X4_share_r mth p0 p1 p2) (wM G am mmi mwo mfa mre men mbY mbg mlo mnb mvo mho mro mwe mwi mba (f_X4_share_mkp mkp p0 p1 p2) (f_X4_share_mth mth p0 p1 p2) msg mns (f_X4_share_mtw p0 p1 p2)) := by
  refine v_ofi (cc := cX4_share) (nL := 5) (lv := [(0, .ref (am 0)), (1, .int p0), (2, .int p1), (3, .int p2)]) (by decide) rfl (Nat.le_of_ble_eq_true rfl) rfl ?_
  intro p e s m args below meth c A X hr
  refine v_aload_n (pc := 0) X dX4_share_0 0 rfl ?_
  refine v_iload_n (pc := 1) X dX4_share_1 1 rfl ?_
  refine v_e0S (pc := 2) (rest := [.ref (am 0)]) (n := 1) X (c_X4_isKey l G p0) gX4_share_X4_isKey rfl rfl rfl (by decide +kernel) ⟨Nat.le_of_ble_eq_true rfl, Nat.le_of_ble_eq_true rfl⟩ dX4_share_2 rfl rfl (Nat.le_of_ble_eq_true rfl) ⟨Nat.le_of_ble_eq_true rfl, Nat.le_of_ble_eq_true rfl⟩ ?_
  refine v_iload_n (pc := 5) X dX4_share_5 2 rfl ?_
  refine v_iconst (pc := 6) (v := 1) X dX4_share_6 (by decide) ?_
  refine v_sipush (pc := 7) (v := 4095) X dX4_share_7 (by decide) ?_
  refine v_e0S (pc := 10) (rest := [.int (f_X4_isKey_r p0), .ref (am 0)]) (n := 3) X (c_X4_in l G p1 1 4095) gX4_share_X4_in rfl rfl rfl (by decide +kernel) ⟨Nat.le_of_ble_eq_true rfl, Nat.le_of_ble_eq_true rfl⟩ dX4_share_10 rfl rfl (Nat.le_of_ble_eq_true rfl) ⟨Nat.le_of_ble_eq_true rfl, Nat.le_of_ble_eq_true rfl⟩ ?_
  refine v_if_eq (pc := 13) X 32 dX4_share_13 (by decide) (fun c_13 => ?_) (fun c_13 => ?_)
  · refine v_iconst (pc := 32) (v := 0) X dX4_share_32 (by decide) ?_
    refine v_iconst (pc := 33) (v := 1) X dX4_share_33 (by decide) ?_
    refine v_eV (pc := 34) (rest := []) (n := 3) (wr := ([] : va_W)) (wn := (wM G am mmi mwo mfa mre men mbY mbg mlo mnb mvo mho mro mwe mwi mba mkp mth msg mns (f_X4_goes_mtw (f_X4_isKey_r p0) 0 1))) (isC := [0, 1, 2, 3, 4, 5, 6, 7, 8, 9, 10, 11, 12, 13, 14, 15]) (isR := []) (isP := [0, 1, 2, 3, 4, 5, 6, 7, 8, 9, 10, 11, 12, 13, 14, 15]) X (c_X4_goes l G am mmi mwo mfa mre men mbY mbg mlo mnb mvo mho mro mwe mwi mba mkp mth msg mns mtw (f_X4_isKey_r p0) 0 1) gX4_share_X4_goes rfl rfl rfl (by decide +kernel) ⟨Nat.le_of_ble_eq_true rfl, Nat.le_of_ble_eq_true rfl⟩ dX4_share_34 rfl rfl (Nat.le_of_ble_eq_true rfl) ⟨Nat.le_of_ble_eq_true rfl, Nat.le_of_ble_eq_true rfl⟩ 0 rfl rfl ⟨rfl, rfl, rfl, rfl, by decide, rfl, rfl⟩ ?_
    refine v_if_ne (pc := 37) X 42 dX4_share_37 (by decide) (fun c_37 => ?_) (fun c_37 => ?_)
    · exact (go2 c_37 rfl).elim
    · refine v_iconst (pc := 40) (v := 0) X dX4_share_40 (by decide) ?_
      exact v_iret (pc := 41) X hr dX4_share_41 () (by show (wM G am mmi mwo mfa mre men mbY mbg mlo mnb mvo mho mro mwe mwi mba mkp mth msg mns (f_X4_goes_mtw (f_X4_isKey_r p0) 0 1)) = (wM G am mmi mwo mfa mre men mbY mbg mlo mnb mvo mho mro mwe mwi mba (f_X4_share_mkp mkp p0 p1 p2) (f_X4_share_mth mth p0 p1 p2) msg mns (f_X4_share_mtw p0 p1 p2)); simp only [f_X4_share_mkp, f_X4_share_mth, f_X4_share_mtw, if_pos c_13, if_pos c_37]) (by show 0 = (f_X4_share_r mth p0 p1 p2); simp only [f_X4_share_r, if_pos c_13, if_pos c_37])
  · refine v_iload_n (pc := 16) X dX4_share_16 3 rfl ?_
    refine v_iconst (pc := 17) (v := 1) X dX4_share_17 (by decide) ?_
    refine v_iload_n (pc := 18) X dX4_share_18 2 rfl ?_
    refine v_e0S (pc := 19) (rest := [.int 1, .int p2, .int (f_X4_isKey_r p0), .ref (am 0)]) (n := 1) X (c_X4_ones l G p1) gX4_share_X4_ones rfl rfl rfl (by decide +kernel) ⟨Nat.le_of_ble_eq_true rfl, Nat.le_of_ble_eq_true rfl⟩ dX4_share_19 rfl rfl (Nat.le_of_ble_eq_true rfl) ⟨Nat.le_of_ble_eq_true rfl, Nat.le_of_ble_eq_true rfl⟩ ?_
    refine v_e0S (pc := 22) (rest := [.int (f_X4_isKey_r p0), .ref (am 0)]) (n := 3) X (c_X4_in l G p2 1 (f_X4_ones_r p1)) gX4_share_X4_in rfl rfl rfl (by decide +kernel) ⟨Nat.le_of_ble_eq_true rfl, Nat.le_of_ble_eq_true rfl⟩ dX4_share_22 rfl rfl (Nat.le_of_ble_eq_true rfl) ⟨Nat.le_of_ble_eq_true rfl, Nat.le_of_ble_eq_true rfl⟩ ?_
    refine v_if_eq (pc := 25) X 32 dX4_share_25 (by decide) (fun c_25 => ?_) (fun c_25 => ?_)
    · refine v_iconst (pc := 32) (v := 0) X dX4_share_32 (by decide) ?_
      refine v_iconst (pc := 33) (v := 1) X dX4_share_33 (by decide) ?_
      refine v_eV (pc := 34) (rest := []) (n := 3) (wr := ([] : va_W)) (wn := (wM G am mmi mwo mfa mre men mbY mbg mlo mnb mvo mho mro mwe mwi mba mkp mth msg mns (f_X4_goes_mtw (f_X4_isKey_r p0) 0 1))) (isC := [0, 1, 2, 3, 4, 5, 6, 7, 8, 9, 10, 11, 12, 13, 14, 15]) (isR := []) (isP := [0, 1, 2, 3, 4, 5, 6, 7, 8, 9, 10, 11, 12, 13, 14, 15]) X (c_X4_goes l G am mmi mwo mfa mre men mbY mbg mlo mnb mvo mho mro mwe mwi mba mkp mth msg mns mtw (f_X4_isKey_r p0) 0 1) gX4_share_X4_goes rfl rfl rfl (by decide +kernel) ⟨Nat.le_of_ble_eq_true rfl, Nat.le_of_ble_eq_true rfl⟩ dX4_share_34 rfl rfl (Nat.le_of_ble_eq_true rfl) ⟨Nat.le_of_ble_eq_true rfl, Nat.le_of_ble_eq_true rfl⟩ 0 rfl rfl ⟨rfl, rfl, rfl, rfl, by decide, rfl, rfl⟩ ?_
      refine v_if_ne (pc := 37) X 42 dX4_share_37 (by decide) (fun c_37 => ?_) (fun c_37 => ?_)
      · exact (go2 c_37 rfl).elim
      · refine v_iconst (pc := 40) (v := 0) X dX4_share_40 (by decide) ?_
        exact v_iret (pc := 41) X hr dX4_share_41 () (by show (wM G am mmi mwo mfa mre men mbY mbg mlo mnb mvo mho mro mwe mwi mba mkp mth msg mns (f_X4_goes_mtw (f_X4_isKey_r p0) 0 1)) = (wM G am mmi mwo mfa mre men mbY mbg mlo mnb mvo mho mro mwe mwi mba (f_X4_share_mkp mkp p0 p1 p2) (f_X4_share_mth mth p0 p1 p2) msg mns (f_X4_share_mtw p0 p1 p2)); simp only [f_X4_share_mkp, f_X4_share_mth, f_X4_share_mtw, if_neg c_13, if_pos c_25, if_pos c_37]) (by show 0 = (f_X4_share_r mth p0 p1 p2); simp only [f_X4_share_r, if_neg c_13, if_pos c_25, if_pos c_37])
    · refine v_iconst (pc := 28) (v := 1) X dX4_share_28 (by decide) ?_
      refine v_goto (pc := 29) X 33 dX4_share_29 (by decide) ?_
      refine v_iconst (pc := 33) (v := 1) X dX4_share_33 (by decide) ?_
      refine v_eV (pc := 34) (rest := []) (n := 3) (wr := ([] : va_W)) (wn := (wM G am mmi mwo mfa mre men mbY mbg mlo mnb mvo mho mro mwe mwi mba mkp mth msg mns (f_X4_goes_mtw (f_X4_isKey_r p0) 1 1))) (isC := [0, 1, 2, 3, 4, 5, 6, 7, 8, 9, 10, 11, 12, 13, 14, 15]) (isR := []) (isP := [0, 1, 2, 3, 4, 5, 6, 7, 8, 9, 10, 11, 12, 13, 14, 15]) X (c_X4_goes l G am mmi mwo mfa mre men mbY mbg mlo mnb mvo mho mro mwe mwi mba mkp mth msg mns mtw (f_X4_isKey_r p0) 1 1) gX4_share_X4_goes rfl rfl rfl (by decide +kernel) ⟨Nat.le_of_ble_eq_true rfl, Nat.le_of_ble_eq_true rfl⟩ dX4_share_34 rfl rfl (Nat.le_of_ble_eq_true rfl) ⟨Nat.le_of_ble_eq_true rfl, Nat.le_of_ble_eq_true rfl⟩ 0 rfl rfl ⟨rfl, rfl, rfl, rfl, by decide, rfl, rfl⟩ ?_
      refine v_if_ne (pc := 37) X 42 dX4_share_37 (by decide) (fun c_37 => ?_) (fun c_37 => ?_)
      · have pin : vp_in p0 4 := mkey_in (go1 c_37)
        refine v_aload_n (pc := 42) X dX4_share_42 0 rfl ?_
        refine v_get (pc := 43) (k := 16) (i := 1) X dX4_share_43 (fun _ h => List.mem_cons_of_mem _ (List.mem_append_right _ h)) 0 rfl rfl (Nat.le_of_ble_eq_true rfl) rfl rfl rfl ?_
        refine v_iload_n (pc := 46) X dX4_share_46 1 rfl ?_
        refine v_iald (pc := 47) X dX4_share_47 14 rfl pin rfl ?_
        refine v_istore (pc := 48) (lv' := [(0, .ref (am 0)), (1, .int p0), (2, .int p1), (3, .int p2), (4, .int (mth (p0).toNatClampNeg))]) X dX4_share_48 (Nat.le_of_ble_eq_true rfl) [1, 2, 3, 4, 0] rfl ?_
        refine v_aload_n (pc := 50) X dX4_share_50 0 rfl ?_
        refine v_get (pc := 51) (k := 15) (i := 2) X dX4_share_51 (fun _ h => List.mem_cons_of_mem _ (List.mem_append_right _ h)) 0 rfl rfl (Nat.le_of_ble_eq_true rfl) rfl rfl rfl ?_
        refine v_iload_n (pc := 54) X dX4_share_54 1 rfl ?_
        refine v_iload_n (pc := 55) X dX4_share_55 2 rfl ?_
        refine v_iast (pc := 56) (ws' := (wM G am mmi mwo mfa mre men mbY mbg mlo mnb mvo mho mro mwe mwi mba (upd mkp (p0).toNatClampNeg p1) mth msg mns (f_X4_goes_mtw (f_X4_isKey_r p0) 1 1))) X dX4_share_56 13 rfl pin rfl ?_
        refine v_aload_n (pc := 57) X dX4_share_57 0 rfl ?_
        refine v_get (pc := 58) (k := 16) (i := 1) X dX4_share_58 (fun _ h => List.mem_cons_of_mem _ (List.mem_append_right _ h)) 0 rfl rfl (Nat.le_of_ble_eq_true rfl) rfl rfl rfl ?_
        refine v_iload_n (pc := 61) X dX4_share_61 1 rfl ?_
        refine v_iload_n (pc := 62) X dX4_share_62 3 rfl ?_
        refine v_iast (pc := 63) (ws' := (wM G am mmi mwo mfa mre men mbY mbg mlo mnb mvo mho mro mwe mwi mba (upd mkp (p0).toNatClampNeg p1) (upd mth (p0).toNatClampNeg p2) msg mns (f_X4_goes_mtw (f_X4_isKey_r p0) 1 1))) X dX4_share_63 14 rfl pin rfl ?_
        refine v_iload (pc := 64) X dX4_share_64 4 rfl ?_
        exact v_iret (pc := 66) X hr dX4_share_66 () (by show (wM G am mmi mwo mfa mre men mbY mbg mlo mnb mvo mho mro mwe mwi mba (upd mkp (p0).toNatClampNeg p1) (upd mth (p0).toNatClampNeg p2) msg mns (f_X4_goes_mtw (f_X4_isKey_r p0) 1 1)) = (wM G am mmi mwo mfa mre men mbY mbg mlo mnb mvo mho mro mwe mwi mba (f_X4_share_mkp mkp p0 p1 p2) (f_X4_share_mth mth p0 p1 p2) msg mns (f_X4_share_mtw p0 p1 p2)); simp only [f_X4_share_mkp, f_X4_share_mth, f_X4_share_mtw, if_neg c_13, if_neg c_25, if_neg c_37]) (by show (mth (p0).toNatClampNeg) = (f_X4_share_r mth p0 p1 p2); simp only [f_X4_share_r, if_neg c_13, if_neg c_25, if_neg c_37])
      · refine v_iconst (pc := 40) (v := 0) X dX4_share_40 (by decide) ?_
        exact v_iret (pc := 41) X hr dX4_share_41 () (by show (wM G am mmi mwo mfa mre men mbY mbg mlo mnb mvo mho mro mwe mwi mba mkp mth msg mns (f_X4_goes_mtw (f_X4_isKey_r p0) 1 1)) = (wM G am mmi mwo mfa mre men mbY mbg mlo mnb mvo mho mro mwe mwi mba (f_X4_share_mkp mkp p0 p1 p2) (f_X4_share_mth mth p0 p1 p2) msg mns (f_X4_share_mtw p0 p1 p2)); simp only [f_X4_share_mkp, f_X4_share_mth, f_X4_share_mtw, if_neg c_13, if_neg c_25, if_pos c_37]) (by show 0 = (f_X4_share_r mth p0 p1 p2); simp only [f_X4_share_r, if_neg c_13, if_neg c_25, if_pos c_37])
def FX4_users_4_x2 : Nat → Int32 → Int32 → Int32 → (Nat → Int32) → (Nat → Int32) → (Nat → Int32) → (Nat → Int32) → (Nat → Int32) → (Nat → Int32) → Int32 → Int32
  | 0, _, _, _, _, _, _, _, _, _, _ => 0
  | n + 1, x2, x3, mmi, men, mbY, mlo, mho, mba, mkp, p0 => (if 12 ≤ x3 then x2 else (if (((mkp (p0).toNatClampNeg) >>> (x3 &&& 31)) &&& 1) = 1 then (if (f_X4_canVouch_r mmi men mbY mlo mho mba x3) = 0 then (FX4_users_4_x2 n (x2 + 0) (x3 + 1) mmi men mbY mlo mho mba mkp p0) else (FX4_users_4_x2 n (x2 + 1) (x3 + 1) mmi men mbY mlo mho mba mkp p0)) else (FX4_users_4_x2 n (x2 + 0) (x3 + 1) mmi men mbY mlo mho mba mkp p0)))
def FX4_users_4_x3 : Nat → Int32 → Int32 → Int32 → (Nat → Int32) → (Nat → Int32) → (Nat → Int32) → (Nat → Int32) → (Nat → Int32) → (Nat → Int32) → Int32 → Int32
  | 0, _, _, _, _, _, _, _, _, _, _ => 0
  | n + 1, x2, x3, mmi, men, mbY, mlo, mho, mba, mkp, p0 => (if 12 ≤ x3 then x3 else (if (((mkp (p0).toNatClampNeg) >>> (x3 &&& 31)) &&& 1) = 1 then (if (f_X4_canVouch_r mmi men mbY mlo mho mba x3) = 0 then (FX4_users_4_x3 n (x2 + 0) (x3 + 1) mmi men mbY mlo mho mba mkp p0) else (FX4_users_4_x3 n (x2 + 1) (x3 + 1) mmi men mbY mlo mho mba mkp p0)) else (FX4_users_4_x3 n (x2 + 0) (x3 + 1) mmi men mbY mlo mho mba mkp p0)))
def f_X4_users_r (mmi : Int32) (men : Nat → Int32) (mbY : Nat → Int32) (mlo : Nat → Int32) (mho : Nat → Int32) (mba : Nat → Int32) (mkp : Nat → Int32) (p0 : Int32) : Int32 := (FX4_users_4_x2 13 0 0 mmi men mbY mlo mho mba mkp p0)
set_option maxHeartbeats 4000000 in
set_option maxRecDepth 100000 in
theorem c_X4_users (l : Launch) (G : va_G) (am : Nat → Nat) (mmi : Int32) (mwo : Nat → Int32) (mfa : Nat → Int32) (mre : Nat → Int32) (men : Nat → Int32) (mbY : Nat → Int32) (mbg : Nat → Int32) (mlo : Nat → Int32) (mnb : Int32) (mvo : Int32) (mho : Nat → Int32) (mro : Nat → Int32) (mwe : Nat → Int32) (mwi : Nat → Int32) (mba : Nat → Int32) (mkp : Nat → Int32) (mth : Nat → Int32) (msg : Nat → Int32) (mns : Int32) (mtw : Int32) (p0 : Int32) (h0 : vp_in p0 4) (hby : ∀ j : Nat, j < 12 → mbY j = -1 ∨ vp_in (mbY j) 100) (hho : ∀ j : Nat, j < 100 → vp_in (mho j) 12) (hlo : ∀ j : Nat, j < 12 → mlo j = 0 ∨ mlo j = 1) : Ke l yX4_users wsX4_users { frames := 3, cells := 0, slots := 0, locals := 65 } 0 0 G (wM G am mmi mwo mfa mre men mbY mbg mlo mnb mvo mho mro mwe mwi mba mkp mth msg mns mtw) [.ref (am 0), .int p0] (f_X4_users_r mmi men mbY mlo mho mba mkp p0) (wM G am mmi mwo mfa mre men mbY mbg mlo mnb mvo mho mro mwe mwi mba mkp mth msg mns mtw) := by
  refine v_ofi (cc := cX4_users) (nL := 4) (lv := [(0, .ref (am 0)), (1, .int p0)]) (by decide) rfl (Nat.le_of_ble_eq_true rfl) rfl ?_
  intro p e s m args below meth c A X hr
  refine v_iconst (pc := 0) (v := 0) X dX4_users_0 (by decide) ?_
  refine v_istore_n (pc := 1) (lv' := [(0, .ref (am 0)), (1, .int p0), (2, .int 0)]) X dX4_users_1 rfl (Nat.le_of_ble_eq_true rfl) [1, 2, 0] rfl ?_
  refine v_iconst (pc := 2) (v := 0) X dX4_users_2 (by decide) ?_
  refine v_istore_n (pc := 3) (lv' := [(0, .ref (am 0)), (1, .int p0), (2, .int 0), (3, .int 0)]) X dX4_users_3 rfl (Nat.le_of_ble_eq_true rfl) [1, 2, 3, 0] rfl ?_
  have LP4 : ∀ (n : Nat) (x2 : Int32) (x3 : Int32), (x3 = nI (12 + 1 - n) ∧ 1 ≤ n ∧ n ≤ 12 + 1) → V p l e (headSpec wsX4_users { frames := 3, cells := 0, slots := 0, locals := 65 }).room s m args below meth c 4 G A 0 0 (QI below args s G A 0 0 (S := Unit) (fun x _ => x = (f_X4_users_r mmi men mbY mlo mho mba mkp p0)) (fun _ => (wM G am mmi mwo mfa mre men mbY mbg mlo mnb mvo mho mro mwe mwi mba mkp mth msg mns mtw))) (wM G am mmi mwo mfa mre men mbY mbg mlo mnb mvo mho mro mwe mwi mba mkp mth msg mns mtw) [(0, .ref (am 0)), (1, .int p0), (2, .int (FX4_users_4_x2 n x2 x3 mmi men mbY mlo mho mba mkp p0)), (3, .int (FX4_users_4_x3 n x2 x3 mmi men mbY mlo mho mba mkp p0))] 46 [] → V p l e (headSpec wsX4_users { frames := 3, cells := 0, slots := 0, locals := 65 }).room s m args below meth c 4 G A 0 0 (QI below args s G A 0 0 (S := Unit) (fun x _ => x = (f_X4_users_r mmi men mbY mlo mho mba mkp p0)) (fun _ => (wM G am mmi mwo mfa mre men mbY mbg mlo mnb mvo mho mro mwe mwi mba mkp mth msg mns mtw))) (wM G am mmi mwo mfa mre men mbY mbg mlo mnb mvo mho mro mwe mwi mba mkp mth msg mns mtw) [(0, .ref (am 0)), (1, .int p0), (2, .int x2), (3, .int x3)] 4 [] := by
    intro n
    induction n with
    | zero => intro x2 x3 hI hK; exact False.elim (by omega)
    | succ n ih =>
      intro x2 x3 hI hK
      refine v_iload_n (pc := 4) X dX4_users_4 3 rfl ?_
      refine v_bipush (pc := 5) (v := 12) X dX4_users_5 (by decide) ?_
      refine v_icmp_ge (pc := 7) X 46 dX4_users_7 (by decide) (fun c_7 => ?_) (fun c_7 => ?_)
      · simpa only [FX4_users_4_x2, FX4_users_4_x3, if_pos c_7] using hK
      · have hi_x3 : vp_in x3 12 := (cnt_in (by decide) (by decide) hI c_7).1
        refine v_iload_n (pc := 10) X dX4_users_10 2 rfl ?_
        refine v_aload_n (pc := 11) X dX4_users_11 0 rfl ?_
        refine v_get (pc := 12) (k := 15) (i := 1) X dX4_users_12 (fun _ h => List.mem_cons_of_mem _ (List.mem_append_right _ h)) 0 rfl rfl (Nat.le_of_ble_eq_true rfl) rfl rfl rfl ?_
        refine v_iload_n (pc := 15) X dX4_users_15 1 rfl ?_
        refine v_iald (pc := 16) X dX4_users_16 13 rfl h0 rfl ?_
        refine v_iload_n (pc := 17) X dX4_users_17 3 rfl ?_
        refine v_ishr (pc := 18) X dX4_users_18 rfl ?_
        refine v_iconst (pc := 19) (v := 1) X dX4_users_19 (by decide) ?_
        refine v_iand (pc := 20) X dX4_users_20 rfl ?_
        refine v_iconst (pc := 21) (v := 1) X dX4_users_21 (by decide) ?_
        refine v_icmp_ne (pc := 22) X 37 dX4_users_22 (by decide) (fun c_22 => ?_) (fun c_22 => ?_)
        · refine v_iconst (pc := 37) (v := 0) X dX4_users_37 (by decide) ?_
          refine v_iadd (pc := 38) X dX4_users_38 rfl ?_
          refine v_istore_n (pc := 39) (lv' := [(0, .ref (am 0)), (1, .int p0), (2, .int (x2 + 0)), (3, .int x3)]) X dX4_users_39 rfl (Nat.le_of_ble_eq_true rfl) [1, 2, 0, 3] rfl ?_
          refine v_iinc (pc := 40) (k := 3) (v := (x3 + 1)) (lv' := [(0, .ref (am 0)), (1, .int p0), (2, .int (x2 + 0)), (3, .int (x3 + 1))]) X dX4_users_40 rfl rfl (Nat.le_of_ble_eq_true rfl) [1, 2, 3, 0] rfl ?_
          refine v_goto (pc := 43) X 4 dX4_users_43 (by decide) ?_
          exact ih (x2 + 0) (x3 + 1) ((cnt_in (by decide) (by decide) hI c_7).2) (by simpa only [FX4_users_4_x2, FX4_users_4_x3, if_neg c_7, if_neg c_22] using hK)
        · refine v_aload_n (pc := 25) X dX4_users_25 0 rfl ?_
          refine v_iload_n (pc := 26) X dX4_users_26 3 rfl ?_
          refine v_eV (pc := 27) (rest := [.int x2]) (n := 1) (wr := ([] : va_W)) (wn := (wM G am mmi mwo mfa mre men mbY mbg mlo mnb mvo mho mro mwe mwi mba mkp mth msg mns mtw)) (isC := [0, 1, 2, 3, 4, 5, 6, 7, 8, 9, 10, 11, 12, 13, 14, 15]) (isR := []) (isP := [0, 1, 2, 3, 4, 5, 6, 7, 8, 9, 10, 11, 12, 13, 14, 15]) X (c_X4_canVouch l G am mmi mwo mfa mre men mbY mbg mlo mnb mvo mho mro mwe mwi mba mkp mth msg mns mtw x3 hi_x3 hby hho hlo) gX4_users_X4_canVouch rfl rfl rfl (by decide +kernel) ⟨Nat.le_of_ble_eq_true rfl, Nat.le_of_ble_eq_true rfl⟩ dX4_users_27 rfl rfl (Nat.le_of_ble_eq_true rfl) ⟨Nat.le_of_ble_eq_true rfl, Nat.le_of_ble_eq_true rfl⟩ 0 rfl rfl ⟨rfl, rfl, rfl, rfl, by decide, rfl, rfl⟩ ?_
          refine v_if_eq (pc := 30) X 37 dX4_users_30 (by decide) (fun c_30 => ?_) (fun c_30 => ?_)
          · refine v_iconst (pc := 37) (v := 0) X dX4_users_37 (by decide) ?_
            refine v_iadd (pc := 38) X dX4_users_38 rfl ?_
            refine v_istore_n (pc := 39) (lv' := [(0, .ref (am 0)), (1, .int p0), (2, .int (x2 + 0)), (3, .int x3)]) X dX4_users_39 rfl (Nat.le_of_ble_eq_true rfl) [1, 2, 0, 3] rfl ?_
            refine v_iinc (pc := 40) (k := 3) (v := (x3 + 1)) (lv' := [(0, .ref (am 0)), (1, .int p0), (2, .int (x2 + 0)), (3, .int (x3 + 1))]) X dX4_users_40 rfl rfl (Nat.le_of_ble_eq_true rfl) [1, 2, 3, 0] rfl ?_
            refine v_goto (pc := 43) X 4 dX4_users_43 (by decide) ?_
            exact ih (x2 + 0) (x3 + 1) ((cnt_in (by decide) (by decide) hI c_7).2) (by simpa only [FX4_users_4_x2, FX4_users_4_x3, if_neg c_7, if_pos c_22, if_pos c_30] using hK)
          · refine v_iconst (pc := 33) (v := 1) X dX4_users_33 (by decide) ?_
            refine v_goto (pc := 34) X 38 dX4_users_34 (by decide) ?_
            refine v_iadd (pc := 38) X dX4_users_38 rfl ?_
            refine v_istore_n (pc := 39) (lv' := [(0, .ref (am 0)), (1, .int p0), (2, .int (x2 + 1)), (3, .int x3)]) X dX4_users_39 rfl (Nat.le_of_ble_eq_true rfl) [1, 2, 0, 3] rfl ?_
            refine v_iinc (pc := 40) (k := 3) (v := (x3 + 1)) (lv' := [(0, .ref (am 0)), (1, .int p0), (2, .int (x2 + 1)), (3, .int (x3 + 1))]) X dX4_users_40 rfl rfl (Nat.le_of_ble_eq_true rfl) [1, 2, 3, 0] rfl ?_
            refine v_goto (pc := 43) X 4 dX4_users_43 (by decide) ?_
            exact ih (x2 + 1) (x3 + 1) ((cnt_in (by decide) (by decide) hI c_7).2) (by simpa only [FX4_users_4_x2, FX4_users_4_x3, if_neg c_7, if_pos c_22, if_neg c_30] using hK)
  refine LP4 13 0 0 (⟨by decide, by decide, by decide⟩) ?_
  refine v_iload_n (pc := 46) X dX4_users_46 2 rfl ?_
  exact v_iret (pc := 47) X hr dX4_users_47 () rfl (by show (FX4_users_4_x2 13 0 0 mmi men mbY mlo mho mba mkp p0) = (f_X4_users_r mmi men mbY mlo mho mba mkp p0); simp only [f_X4_users_r])
def f_X4_use_r (mmi : Int32) (men : Nat → Int32) (mbY : Nat → Int32) (mlo : Nat → Int32) (mho : Nat → Int32) (mba : Nat → Int32) (mkp : Nat → Int32) (mth : Nat → Int32) (p0 : Int32) : Int32 := (if (f_X4_goes_r (f_X4_isKey_r p0) 1 1) = 0 then 0 else (if (f_X4_users_r mmi men mbY mlo mho mba mkp p0) < (mth (p0).toNatClampNeg) then 0 else 1))
def f_X4_use_mtw (p0 : Int32) : Int32 := (f_X4_goes_mtw (f_X4_isKey_r p0) 1 1)
set_option maxHeartbeats 4000000 in
set_option maxRecDepth 100000 in
theorem c_X4_use (l : Launch) (G : va_G) (am : Nat → Nat) (mmi : Int32) (mwo : Nat → Int32) (mfa : Nat → Int32) (mre : Nat → Int32) (men : Nat → Int32) (mbY : Nat → Int32) (mbg : Nat → Int32) (mlo : Nat → Int32) (mnb : Int32) (mvo : Int32) (mho : Nat → Int32) (mro : Nat → Int32) (mwe : Nat → Int32) (mwi : Nat → Int32) (mba : Nat → Int32) (mkp : Nat → Int32) (mth : Nat → Int32) (msg : Nat → Int32) (mns : Int32) (mtw : Int32) (p0 : Int32) (hby : ∀ j : Nat, j < 12 → mbY j = -1 ∨ vp_in (mbY j) 100) (hho : ∀ j : Nat, j < 100 → vp_in (mho j) 12) (hlo : ∀ j : Nat, j < 12 → mlo j = 0 ∨ mlo j = 1) : Ke l yX4_use wsX4_use { frames := 4, cells := 0, slots := 0, locals := 88 } 0 0 G (wM G am mmi mwo mfa mre men mbY mbg mlo mnb mvo mho mro mwe mwi mba mkp mth msg mns mtw) [.ref (am 0), .int p0] (f_X4_use_r mmi men mbY mlo mho mba mkp mth p0) (wM G am mmi mwo mfa mre men mbY mbg mlo mnb mvo mho mro mwe mwi mba mkp mth msg mns (f_X4_use_mtw p0)) := by
  refine v_ofi (cc := cX4_use) (nL := 2) (lv := [(0, .ref (am 0)), (1, .int p0)]) (by decide) rfl (Nat.le_of_ble_eq_true rfl) rfl ?_
  intro p e s m args below meth c A X hr
  refine v_aload_n (pc := 0) X dX4_use_0 0 rfl ?_
  refine v_iload_n (pc := 1) X dX4_use_1 1 rfl ?_
  refine v_e0S (pc := 2) (rest := [.ref (am 0)]) (n := 1) X (c_X4_isKey l G p0) gX4_use_X4_isKey rfl rfl rfl (by decide +kernel) ⟨Nat.le_of_ble_eq_true rfl, Nat.le_of_ble_eq_true rfl⟩ dX4_use_2 rfl rfl (Nat.le_of_ble_eq_true rfl) ⟨Nat.le_of_ble_eq_true rfl, Nat.le_of_ble_eq_true rfl⟩ ?_
  refine v_iconst (pc := 5) (v := 1) X dX4_use_5 (by decide) ?_
  refine v_iconst (pc := 6) (v := 1) X dX4_use_6 (by decide) ?_
  refine v_eV (pc := 7) (rest := []) (n := 3) (wr := ([] : va_W)) (wn := (wM G am mmi mwo mfa mre men mbY mbg mlo mnb mvo mho mro mwe mwi mba mkp mth msg mns (f_X4_goes_mtw (f_X4_isKey_r p0) 1 1))) (isC := [0, 1, 2, 3, 4, 5, 6, 7, 8, 9, 10, 11, 12, 13, 14, 15]) (isR := []) (isP := [0, 1, 2, 3, 4, 5, 6, 7, 8, 9, 10, 11, 12, 13, 14, 15]) X (c_X4_goes l G am mmi mwo mfa mre men mbY mbg mlo mnb mvo mho mro mwe mwi mba mkp mth msg mns mtw (f_X4_isKey_r p0) 1 1) gX4_use_X4_goes rfl rfl rfl (by decide +kernel) ⟨Nat.le_of_ble_eq_true rfl, Nat.le_of_ble_eq_true rfl⟩ dX4_use_7 rfl rfl (Nat.le_of_ble_eq_true rfl) ⟨Nat.le_of_ble_eq_true rfl, Nat.le_of_ble_eq_true rfl⟩ 0 rfl rfl ⟨rfl, rfl, rfl, rfl, by decide, rfl, rfl⟩ ?_
  refine v_if_eq (pc := 10) X 31 dX4_use_10 (by decide) (fun c_10 => ?_) (fun c_10 => ?_)
  · refine v_iconst (pc := 31) (v := 0) X dX4_use_31 (by decide) ?_
    exact v_zret (pc := 32) X hr rfl dX4_use_32 () (by show (wM G am mmi mwo mfa mre men mbY mbg mlo mnb mvo mho mro mwe mwi mba mkp mth msg mns (f_X4_goes_mtw (f_X4_isKey_r p0) 1 1)) = (wM G am mmi mwo mfa mre men mbY mbg mlo mnb mvo mho mro mwe mwi mba mkp mth msg mns (f_X4_use_mtw p0)); simp only [f_X4_use_mtw, if_pos c_10]) (by show 0 = (f_X4_use_r mmi men mbY mlo mho mba mkp mth p0); simp only [f_X4_use_r, if_pos c_10])
  · have pin : vp_in p0 4 := mkey_in (go1 c_10)
    refine v_aload_n (pc := 13) X dX4_use_13 0 rfl ?_
    refine v_iload_n (pc := 14) X dX4_use_14 1 rfl ?_
    refine v_eV (pc := 15) (rest := []) (n := 1) (wr := ([] : va_W)) (wn := (wM G am mmi mwo mfa mre men mbY mbg mlo mnb mvo mho mro mwe mwi mba mkp mth msg mns (f_X4_goes_mtw (f_X4_isKey_r p0) 1 1))) (isC := [0, 1, 2, 3, 4, 5, 6, 7, 8, 9, 10, 11, 12, 13, 14, 15]) (isR := []) (isP := [0, 1, 2, 3, 4, 5, 6, 7, 8, 9, 10, 11, 12, 13, 14, 15]) X (c_X4_users l G am mmi mwo mfa mre men mbY mbg mlo mnb mvo mho mro mwe mwi mba mkp mth msg mns (f_X4_goes_mtw (f_X4_isKey_r p0) 1 1) p0 pin hby hho hlo) gX4_use_X4_users rfl rfl rfl (by decide +kernel) ⟨Nat.le_of_ble_eq_true rfl, Nat.le_of_ble_eq_true rfl⟩ dX4_use_15 rfl rfl (Nat.le_of_ble_eq_true rfl) ⟨Nat.le_of_ble_eq_true rfl, Nat.le_of_ble_eq_true rfl⟩ 0 rfl rfl ⟨rfl, rfl, rfl, rfl, by decide, rfl, rfl⟩ ?_
    refine v_aload_n (pc := 18) X dX4_use_18 0 rfl ?_
    refine v_get (pc := 19) (k := 16) (i := 1) X dX4_use_19 (fun _ h => List.mem_cons_of_mem _ (List.mem_append_right _ h)) 0 rfl rfl (Nat.le_of_ble_eq_true rfl) rfl rfl rfl ?_
    refine v_iload_n (pc := 22) X dX4_use_22 1 rfl ?_
    refine v_iald (pc := 23) X dX4_use_23 14 rfl pin rfl ?_
    refine v_icmp_lt (pc := 24) X 31 dX4_use_24 (by decide) (fun c_24 => ?_) (fun c_24 => ?_)
    · refine v_iconst (pc := 31) (v := 0) X dX4_use_31 (by decide) ?_
      exact v_zret (pc := 32) X hr rfl dX4_use_32 () (by show (wM G am mmi mwo mfa mre men mbY mbg mlo mnb mvo mho mro mwe mwi mba mkp mth msg mns (f_X4_goes_mtw (f_X4_isKey_r p0) 1 1)) = (wM G am mmi mwo mfa mre men mbY mbg mlo mnb mvo mho mro mwe mwi mba mkp mth msg mns (f_X4_use_mtw p0)); simp only [f_X4_use_mtw, if_neg c_10, if_pos c_24]) (by show 0 = (f_X4_use_r mmi men mbY mlo mho mba mkp mth p0); simp only [f_X4_use_r, if_neg c_10, if_pos c_24])
    · refine v_iconst (pc := 27) (v := 1) X dX4_use_27 (by decide) ?_
      refine v_goto (pc := 28) X 32 dX4_use_28 (by decide) ?_
      exact v_zret (pc := 32) X hr rfl dX4_use_32 () (by show (wM G am mmi mwo mfa mre men mbY mbg mlo mnb mvo mho mro mwe mwi mba mkp mth msg mns (f_X4_goes_mtw (f_X4_isKey_r p0) 1 1)) = (wM G am mmi mwo mfa mre men mbY mbg mlo mnb mvo mho mro mwe mwi mba mkp mth msg mns (f_X4_use_mtw p0)); simp only [f_X4_use_mtw, if_neg c_10, if_neg c_24]) (by show 1 = (f_X4_use_r mmi men mbY mlo mho mba mkp mth p0); simp only [f_X4_use_r, if_neg c_10, if_neg c_24])
def f_X4_told_r (mmi : Int32) (mfa : Nat → Int32) (men : Nat → Int32) (mbY : Nat → Int32) (mbg : Nat → Int32) (mlo : Nat → Int32) (mho : Nat → Int32) (mro : Nat → Int32) (mba : Nat → Int32) (p0 : Int32) (p1 : Int32) : Int32 := (if p1 = 0 then (if (f_X4_isIn_r mmi men p0) = 0 then 0 else 1) else (if p1 = 1 then (if (f_X4_isTrusted_r mbY mho p0) = 0 then 0 else 1) else (if p1 = 2 then (if (f_X4_isTainted_r mbY mlo mho mba p0) = 0 then 0 else 1) else (if p1 = 3 then (f_X4_roomsOf_r mbY mho mro p0) else (if p1 = 4 then (if (mbY (p0).toNatClampNeg) = (-1) then (-1) else (mho ((mbY (p0).toNatClampNeg)).toNatClampNeg)) else (if p1 = 5 then (mfa (p0).toNatClampNeg) else (if p1 = 6 then (if (f_X4_isIn_r mmi men p0) = 0 then (-1) else (men (p0).toNatClampNeg)) else (mbg (p0).toNatClampNeg))))))))
set_option maxHeartbeats 4000000 in
set_option maxRecDepth 100000 in
theorem c_X4_told (l : Launch) (G : va_G) (am : Nat → Nat) (mmi : Int32) (mwo : Nat → Int32) (mfa : Nat → Int32) (mre : Nat → Int32) (men : Nat → Int32) (mbY : Nat → Int32) (mbg : Nat → Int32) (mlo : Nat → Int32) (mnb : Int32) (mvo : Int32) (mho : Nat → Int32) (mro : Nat → Int32) (mwe : Nat → Int32) (mwi : Nat → Int32) (mba : Nat → Int32) (mkp : Nat → Int32) (mth : Nat → Int32) (msg : Nat → Int32) (mns : Int32) (mtw : Int32) (p0 : Int32) (p1 : Int32) (h0 : vp_in p0 12) (hby : ∀ j : Nat, j < 12 → mbY j = -1 ∨ vp_in (mbY j) 100) (hho : ∀ j : Nat, j < 100 → vp_in (mho j) 12) (hlo : ∀ j : Nat, j < 12 → mlo j = 0 ∨ mlo j = 1) : Ke l yX4_told wsX4_told { frames := 3, cells := 0, slots := 0, locals := 67 } 0 0 G (wM G am mmi mwo mfa mre men mbY mbg mlo mnb mvo mho mro mwe mwi mba mkp mth msg mns mtw) [.ref (am 0), .int p0, .int p1] (f_X4_told_r mmi mfa men mbY mbg mlo mho mro mba p0 p1) (wM G am mmi mwo mfa mre men mbY mbg mlo mnb mvo mho mro mwe mwi mba mkp mth msg mns mtw) := by
  refine v_ofi (cc := cX4_told) (nL := 3) (lv := [(0, .ref (am 0)), (1, .int p0), (2, .int p1)]) (by decide) rfl (Nat.le_of_ble_eq_true rfl) rfl ?_
  intro p e s m args below meth c A X hr
  refine v_iload_n (pc := 0) X dX4_told_0 2 rfl ?_
  rcases Classical.em (p1 = 0) with c_1_0 | c_1_0
  · refine v_tableIn (pc := 1) (off := 43) X 44 dX4_told_1 (by rw [c_1_0]; decide) (by rw [c_1_0]; decide) (by rw [c_1_0]; rfl) (by decide) ?_
    refine v_aload_n (pc := 44) X dX4_told_44 0 rfl ?_
    refine v_iload_n (pc := 45) X dX4_told_45 1 rfl ?_
    refine v_eV (pc := 46) (rest := []) (n := 1) (wr := ([] : va_W)) (wn := (wM G am mmi mwo mfa mre men mbY mbg mlo mnb mvo mho mro mwe mwi mba mkp mth msg mns mtw)) (isC := [0, 1, 2, 3, 4, 5, 6, 7, 8, 9, 10, 11, 12, 13, 14, 15]) (isR := []) (isP := [0, 1, 2, 3, 4, 5, 6, 7, 8, 9, 10, 11, 12, 13, 14, 15]) X (c_X4_isIn l G am mmi mwo mfa mre men mbY mbg mlo mnb mvo mho mro mwe mwi mba mkp mth msg mns mtw p0 h0) gX4_told_X4_isIn rfl rfl rfl (by decide +kernel) ⟨Nat.le_of_ble_eq_true rfl, Nat.le_of_ble_eq_true rfl⟩ dX4_told_46 rfl rfl (Nat.le_of_ble_eq_true rfl) ⟨Nat.le_of_ble_eq_true rfl, Nat.le_of_ble_eq_true rfl⟩ 0 rfl rfl ⟨rfl, rfl, rfl, rfl, by decide, rfl, rfl⟩ ?_
    refine v_if_eq (pc := 49) X 56 dX4_told_49 (by decide) (fun c_49 => ?_) (fun c_49 => ?_)
    · refine v_iconst (pc := 56) (v := 0) X dX4_told_56 (by decide) ?_
      exact v_iret (pc := 57) X hr dX4_told_57 () rfl (by show 0 = (f_X4_told_r mmi mfa men mbY mbg mlo mho mro mba p0 p1); simp only [f_X4_told_r, if_pos c_1_0, if_pos c_49])
    · refine v_iconst (pc := 52) (v := 1) X dX4_told_52 (by decide) ?_
      refine v_goto (pc := 53) X 57 dX4_told_53 (by decide) ?_
      exact v_iret (pc := 57) X hr dX4_told_57 () rfl (by show 1 = (f_X4_told_r mmi mfa men mbY mbg mlo mho mro mba p0 p1); simp only [f_X4_told_r, if_pos c_1_0, if_neg c_49])
  · rcases Classical.em (p1 = 1) with c_1_1 | c_1_1
    · refine v_tableIn (pc := 1) (off := 57) X 58 dX4_told_1 (by rw [c_1_1]; decide) (by rw [c_1_1]; decide) (by rw [c_1_1]; rfl) (by decide) ?_
      refine v_aload_n (pc := 58) X dX4_told_58 0 rfl ?_
      refine v_iload_n (pc := 59) X dX4_told_59 1 rfl ?_
      refine v_eV (pc := 60) (rest := []) (n := 1) (wr := ([] : va_W)) (wn := (wM G am mmi mwo mfa mre men mbY mbg mlo mnb mvo mho mro mwe mwi mba mkp mth msg mns mtw)) (isC := [0, 1, 2, 3, 4, 5, 6, 7, 8, 9, 10, 11, 12, 13, 14, 15]) (isR := []) (isP := [0, 1, 2, 3, 4, 5, 6, 7, 8, 9, 10, 11, 12, 13, 14, 15]) X (c_X4_isTrusted l G am mmi mwo mfa mre men mbY mbg mlo mnb mvo mho mro mwe mwi mba mkp mth msg mns mtw p0 h0 hby hho) gX4_told_X4_isTrusted rfl rfl rfl (by decide +kernel) ⟨Nat.le_of_ble_eq_true rfl, Nat.le_of_ble_eq_true rfl⟩ dX4_told_60 rfl rfl (Nat.le_of_ble_eq_true rfl) ⟨Nat.le_of_ble_eq_true rfl, Nat.le_of_ble_eq_true rfl⟩ 0 rfl rfl ⟨rfl, rfl, rfl, rfl, by decide, rfl, rfl⟩ ?_
      refine v_if_eq (pc := 63) X 70 dX4_told_63 (by decide) (fun c_63 => ?_) (fun c_63 => ?_)
      · refine v_iconst (pc := 70) (v := 0) X dX4_told_70 (by decide) ?_
        exact v_iret (pc := 71) X hr dX4_told_71 () rfl (by show 0 = (f_X4_told_r mmi mfa men mbY mbg mlo mho mro mba p0 p1); simp only [f_X4_told_r, if_neg c_1_0, if_pos c_1_1, if_pos c_63])
      · refine v_iconst (pc := 66) (v := 1) X dX4_told_66 (by decide) ?_
        refine v_goto (pc := 67) X 71 dX4_told_67 (by decide) ?_
        exact v_iret (pc := 71) X hr dX4_told_71 () rfl (by show 1 = (f_X4_told_r mmi mfa men mbY mbg mlo mho mro mba p0 p1); simp only [f_X4_told_r, if_neg c_1_0, if_pos c_1_1, if_neg c_63])
    · rcases Classical.em (p1 = 2) with c_1_2 | c_1_2
      · refine v_tableIn (pc := 1) (off := 71) X 72 dX4_told_1 (by rw [c_1_2]; decide) (by rw [c_1_2]; decide) (by rw [c_1_2]; rfl) (by decide) ?_
        refine v_aload_n (pc := 72) X dX4_told_72 0 rfl ?_
        refine v_iload_n (pc := 73) X dX4_told_73 1 rfl ?_
        refine v_eV (pc := 74) (rest := []) (n := 1) (wr := ([] : va_W)) (wn := (wM G am mmi mwo mfa mre men mbY mbg mlo mnb mvo mho mro mwe mwi mba mkp mth msg mns mtw)) (isC := [0, 1, 2, 3, 4, 5, 6, 7, 8, 9, 10, 11, 12, 13, 14, 15]) (isR := []) (isP := [0, 1, 2, 3, 4, 5, 6, 7, 8, 9, 10, 11, 12, 13, 14, 15]) X (c_X4_isTainted l G am mmi mwo mfa mre men mbY mbg mlo mnb mvo mho mro mwe mwi mba mkp mth msg mns mtw p0 h0 hby hho hlo) gX4_told_X4_isTainted rfl rfl rfl (by decide +kernel) ⟨Nat.le_of_ble_eq_true rfl, Nat.le_of_ble_eq_true rfl⟩ dX4_told_74 rfl rfl (Nat.le_of_ble_eq_true rfl) ⟨Nat.le_of_ble_eq_true rfl, Nat.le_of_ble_eq_true rfl⟩ 0 rfl rfl ⟨rfl, rfl, rfl, rfl, by decide, rfl, rfl⟩ ?_
        refine v_if_eq (pc := 77) X 84 dX4_told_77 (by decide) (fun c_77 => ?_) (fun c_77 => ?_)
        · refine v_iconst (pc := 84) (v := 0) X dX4_told_84 (by decide) ?_
          exact v_iret (pc := 85) X hr dX4_told_85 () rfl (by show 0 = (f_X4_told_r mmi mfa men mbY mbg mlo mho mro mba p0 p1); simp only [f_X4_told_r, if_neg c_1_0, if_neg c_1_1, if_pos c_1_2, if_pos c_77])
        · refine v_iconst (pc := 80) (v := 1) X dX4_told_80 (by decide) ?_
          refine v_goto (pc := 81) X 85 dX4_told_81 (by decide) ?_
          exact v_iret (pc := 85) X hr dX4_told_85 () rfl (by show 1 = (f_X4_told_r mmi mfa men mbY mbg mlo mho mro mba p0 p1); simp only [f_X4_told_r, if_neg c_1_0, if_neg c_1_1, if_pos c_1_2, if_neg c_77])
      · rcases Classical.em (p1 = 3) with c_1_3 | c_1_3
        · refine v_tableIn (pc := 1) (off := 85) X 86 dX4_told_1 (by rw [c_1_3]; decide) (by rw [c_1_3]; decide) (by rw [c_1_3]; rfl) (by decide) ?_
          refine v_aload_n (pc := 86) X dX4_told_86 0 rfl ?_
          refine v_iload_n (pc := 87) X dX4_told_87 1 rfl ?_
          refine v_eV (pc := 88) (rest := []) (n := 1) (wr := ([] : va_W)) (wn := (wM G am mmi mwo mfa mre men mbY mbg mlo mnb mvo mho mro mwe mwi mba mkp mth msg mns mtw)) (isC := [0, 1, 2, 3, 4, 5, 6, 7, 8, 9, 10, 11, 12, 13, 14, 15]) (isR := []) (isP := [0, 1, 2, 3, 4, 5, 6, 7, 8, 9, 10, 11, 12, 13, 14, 15]) X (c_X4_roomsOf l G am mmi mwo mfa mre men mbY mbg mlo mnb mvo mho mro mwe mwi mba mkp mth msg mns mtw p0 h0 hby hho) gX4_told_X4_roomsOf rfl rfl rfl (by decide +kernel) ⟨Nat.le_of_ble_eq_true rfl, Nat.le_of_ble_eq_true rfl⟩ dX4_told_88 rfl rfl (Nat.le_of_ble_eq_true rfl) ⟨Nat.le_of_ble_eq_true rfl, Nat.le_of_ble_eq_true rfl⟩ 0 rfl rfl ⟨rfl, rfl, rfl, rfl, by decide, rfl, rfl⟩ ?_
          exact v_iret (pc := 91) X hr dX4_told_91 () rfl (by show (f_X4_roomsOf_r mbY mho mro p0) = (f_X4_told_r mmi mfa men mbY mbg mlo mho mro mba p0 p1); simp only [f_X4_told_r, if_neg c_1_0, if_neg c_1_1, if_neg c_1_2, if_pos c_1_3])
        · rcases Classical.em (p1 = 4) with c_1_4 | c_1_4
          · refine v_tableIn (pc := 1) (off := 91) X 92 dX4_told_1 (by rw [c_1_4]; decide) (by rw [c_1_4]; decide) (by rw [c_1_4]; rfl) (by decide) ?_
            refine v_aload_n (pc := 92) X dX4_told_92 0 rfl ?_
            refine v_get (pc := 93) (k := 5) (i := 1) X dX4_told_93 (fun _ h => List.mem_cons_of_mem _ (List.mem_append_right _ h)) 0 rfl rfl (Nat.le_of_ble_eq_true rfl) rfl rfl rfl ?_
            refine v_iload_n (pc := 96) X dX4_told_96 1 rfl ?_
            refine v_iald (pc := 97) X dX4_told_97 5 rfl h0 rfl ?_
            refine v_iconst (pc := 98) (v := (-1)) X dX4_told_98 (by decide) ?_
            refine v_icmp_ne (pc := 99) X 106 dX4_told_99 (by decide) (fun c_99 => ?_) (fun c_99 => ?_)
            · have hb : vp_in (mbY (p0).toNatClampNeg) 100 := (hby _ (vp_lt h0)).resolve_left c_99
              refine v_aload_n (pc := 106) X dX4_told_106 0 rfl ?_
              refine v_get (pc := 107) (k := 10) (i := 2) X dX4_told_107 (fun _ h => List.mem_cons_of_mem _ (List.mem_append_right _ h)) 0 rfl rfl (Nat.le_of_ble_eq_true rfl) rfl rfl rfl ?_
              refine v_aload_n (pc := 110) X dX4_told_110 0 rfl ?_
              refine v_get (pc := 111) (k := 5) (i := 1) X dX4_told_111 (fun _ h => List.mem_cons_of_mem _ (List.mem_append_right _ h)) 0 rfl rfl (Nat.le_of_ble_eq_true rfl) rfl rfl rfl ?_
              refine v_iload_n (pc := 114) X dX4_told_114 1 rfl ?_
              refine v_iald (pc := 115) X dX4_told_115 5 rfl h0 rfl ?_
              refine v_iald (pc := 116) X dX4_told_116 8 rfl hb rfl ?_
              exact v_iret (pc := 117) X hr dX4_told_117 () rfl (by show (mho ((mbY (p0).toNatClampNeg)).toNatClampNeg) = (f_X4_told_r mmi mfa men mbY mbg mlo mho mro mba p0 p1); simp only [f_X4_told_r, if_neg c_1_0, if_neg c_1_1, if_neg c_1_2, if_neg c_1_3, if_pos c_1_4, if_neg c_99])
            · refine v_iconst (pc := 102) (v := (-1)) X dX4_told_102 (by decide) ?_
              refine v_goto (pc := 103) X 117 dX4_told_103 (by decide) ?_
              exact v_iret (pc := 117) X hr dX4_told_117 () rfl (by show (-1) = (f_X4_told_r mmi mfa men mbY mbg mlo mho mro mba p0 p1); simp only [f_X4_told_r, if_neg c_1_0, if_neg c_1_1, if_neg c_1_2, if_neg c_1_3, if_pos c_1_4, if_pos c_99])
          · rcases Classical.em (p1 = 5) with c_1_5 | c_1_5
            · refine v_tableIn (pc := 1) (off := 117) X 118 dX4_told_1 (by rw [c_1_5]; decide) (by rw [c_1_5]; decide) (by rw [c_1_5]; rfl) (by decide) ?_
              refine v_aload_n (pc := 118) X dX4_told_118 0 rfl ?_
              refine v_get (pc := 119) (k := 2) (i := 3) X dX4_told_119 (fun _ h => List.mem_cons_of_mem _ (List.mem_append_right _ h)) 0 rfl rfl (Nat.le_of_ble_eq_true rfl) rfl rfl rfl ?_
              refine v_iload_n (pc := 122) X dX4_told_122 1 rfl ?_
              refine v_iald (pc := 123) X dX4_told_123 2 rfl h0 rfl ?_
              exact v_iret (pc := 124) X hr dX4_told_124 () rfl (by show (mfa (p0).toNatClampNeg) = (f_X4_told_r mmi mfa men mbY mbg mlo mho mro mba p0 p1); simp only [f_X4_told_r, if_neg c_1_0, if_neg c_1_1, if_neg c_1_2, if_neg c_1_3, if_neg c_1_4, if_pos c_1_5])
            · rcases Classical.em (p1 = 6) with c_1_6 | c_1_6
              · refine v_tableIn (pc := 1) (off := 124) X 125 dX4_told_1 (by rw [c_1_6]; decide) (by rw [c_1_6]; decide) (by rw [c_1_6]; rfl) (by decide) ?_
                refine v_aload_n (pc := 125) X dX4_told_125 0 rfl ?_
                refine v_iload_n (pc := 126) X dX4_told_126 1 rfl ?_
                refine v_eV (pc := 127) (rest := []) (n := 1) (wr := ([] : va_W)) (wn := (wM G am mmi mwo mfa mre men mbY mbg mlo mnb mvo mho mro mwe mwi mba mkp mth msg mns mtw)) (isC := [0, 1, 2, 3, 4, 5, 6, 7, 8, 9, 10, 11, 12, 13, 14, 15]) (isR := []) (isP := [0, 1, 2, 3, 4, 5, 6, 7, 8, 9, 10, 11, 12, 13, 14, 15]) X (c_X4_isIn l G am mmi mwo mfa mre men mbY mbg mlo mnb mvo mho mro mwe mwi mba mkp mth msg mns mtw p0 h0) gX4_told_X4_isIn rfl rfl rfl (by decide +kernel) ⟨Nat.le_of_ble_eq_true rfl, Nat.le_of_ble_eq_true rfl⟩ dX4_told_127 rfl rfl (Nat.le_of_ble_eq_true rfl) ⟨Nat.le_of_ble_eq_true rfl, Nat.le_of_ble_eq_true rfl⟩ 0 rfl rfl ⟨rfl, rfl, rfl, rfl, by decide, rfl, rfl⟩ ?_
                refine v_if_eq (pc := 130) X 142 dX4_told_130 (by decide) (fun c_130 => ?_) (fun c_130 => ?_)
                · refine v_iconst (pc := 142) (v := (-1)) X dX4_told_142 (by decide) ?_
                  exact v_iret (pc := 143) X hr dX4_told_143 () rfl (by show (-1) = (f_X4_told_r mmi mfa men mbY mbg mlo mho mro mba p0 p1); simp only [f_X4_told_r, if_neg c_1_0, if_neg c_1_1, if_neg c_1_2, if_neg c_1_3, if_neg c_1_4, if_neg c_1_5, if_pos c_1_6, if_pos c_130])
                · refine v_aload_n (pc := 133) X dX4_told_133 0 rfl ?_
                  refine v_get (pc := 134) (k := 4) (i := 4) X dX4_told_134 (fun _ h => List.mem_cons_of_mem _ (List.mem_append_right _ h)) 0 rfl rfl (Nat.le_of_ble_eq_true rfl) rfl rfl rfl ?_
                  refine v_iload_n (pc := 137) X dX4_told_137 1 rfl ?_
                  refine v_iald (pc := 138) X dX4_told_138 4 rfl h0 rfl ?_
                  refine v_goto (pc := 139) X 143 dX4_told_139 (by decide) ?_
                  exact v_iret (pc := 143) X hr dX4_told_143 () rfl (by show (men (p0).toNatClampNeg) = (f_X4_told_r mmi mfa men mbY mbg mlo mho mro mba p0 p1); simp only [f_X4_told_r, if_neg c_1_0, if_neg c_1_1, if_neg c_1_2, if_neg c_1_3, if_neg c_1_4, if_neg c_1_5, if_pos c_1_6, if_neg c_130])
              · refine v_tableOut (pc := 1) X 144 dX4_told_1 (sw_out 7 p1 (fun k hk => by match k, hk with | 0, _ => exact c_1_0 | 1, _ => exact c_1_1 | 2, _ => exact c_1_2 | 3, _ => exact c_1_3 | 4, _ => exact c_1_4 | 5, _ => exact c_1_5 | 6, _ => exact c_1_6 | k + 7, hk => omega)) (by decide) ?_
                refine v_aload_n (pc := 144) X dX4_told_144 0 rfl ?_
                refine v_get (pc := 145) (k := 6) (i := 5) X dX4_told_145 (fun _ h => List.mem_cons_of_mem _ (List.mem_append_right _ h)) 0 rfl rfl (Nat.le_of_ble_eq_true rfl) rfl rfl rfl ?_
                refine v_iload_n (pc := 148) X dX4_told_148 1 rfl ?_
                refine v_iald (pc := 149) X dX4_told_149 6 rfl h0 rfl ?_
                exact v_iret (pc := 150) X hr dX4_told_150 () rfl (by show (mbg (p0).toNatClampNeg) = (f_X4_told_r mmi mfa men mbY mbg mlo mho mro mba p0 p1); simp only [f_X4_told_r, if_neg c_1_0, if_neg c_1_1, if_neg c_1_2, if_neg c_1_3, if_neg c_1_4, if_neg c_1_5, if_neg c_1_6])
def f_X4_of_r (mmi : Int32) (mfa : Nat → Int32) (men : Nat → Int32) (mbY : Nat → Int32) (mbg : Nat → Int32) (mlo : Nat → Int32) (mho : Nat → Int32) (mro : Nat → Int32) (mba : Nat → Int32) (p0 : Int32) (p1 : Int32) : Int32 := (if (f_X4_goes_r (f_X4_isPerson_r p0) (f_X4_in_r p1 0 7) 1) = 0 then 0 else (f_X4_told_r mmi mfa men mbY mbg mlo mho mro mba p0 p1))
def f_X4_of_mtw (p0 : Int32) (p1 : Int32) : Int32 := (f_X4_goes_mtw (f_X4_isPerson_r p0) (f_X4_in_r p1 0 7) 1)
set_option maxHeartbeats 4000000 in
set_option maxRecDepth 100000 in
theorem c_X4_of (l : Launch) (G : va_G) (am : Nat → Nat) (mmi : Int32) (mwo : Nat → Int32) (mfa : Nat → Int32) (mre : Nat → Int32) (men : Nat → Int32) (mbY : Nat → Int32) (mbg : Nat → Int32) (mlo : Nat → Int32) (mnb : Int32) (mvo : Int32) (mho : Nat → Int32) (mro : Nat → Int32) (mwe : Nat → Int32) (mwi : Nat → Int32) (mba : Nat → Int32) (mkp : Nat → Int32) (mth : Nat → Int32) (msg : Nat → Int32) (mns : Int32) (mtw : Int32) (p0 : Int32) (p1 : Int32) (hby : ∀ j : Nat, j < 12 → mbY j = -1 ∨ vp_in (mbY j) 100) (hho : ∀ j : Nat, j < 100 → vp_in (mho j) 12) (hlo : ∀ j : Nat, j < 12 → mlo j = 0 ∨ mlo j = 1) : Ke l yX4_of wsX4_of { frames := 4, cells := 0, slots := 0, locals := 89 } 0 0 G (wM G am mmi mwo mfa mre men mbY mbg mlo mnb mvo mho mro mwe mwi mba mkp mth msg mns mtw) [.ref (am 0), .int p0, .int p1] (f_X4_of_r mmi mfa men mbY mbg mlo mho mro mba p0 p1) (wM G am mmi mwo mfa mre men mbY mbg mlo mnb mvo mho mro mwe mwi mba mkp mth msg mns (f_X4_of_mtw p0 p1)) := by
  refine v_ofi (cc := cX4_of) (nL := 3) (lv := [(0, .ref (am 0)), (1, .int p0), (2, .int p1)]) (by decide) rfl (Nat.le_of_ble_eq_true rfl) rfl ?_
  intro p e s m args below meth c A X hr
  refine v_aload_n (pc := 0) X dX4_of_0 0 rfl ?_
  refine v_iload_n (pc := 1) X dX4_of_1 1 rfl ?_
  refine v_e0S (pc := 2) (rest := [.ref (am 0)]) (n := 1) X (c_X4_isPerson l G p0) gX4_of_X4_isPerson rfl rfl rfl (by decide +kernel) ⟨Nat.le_of_ble_eq_true rfl, Nat.le_of_ble_eq_true rfl⟩ dX4_of_2 rfl rfl (Nat.le_of_ble_eq_true rfl) ⟨Nat.le_of_ble_eq_true rfl, Nat.le_of_ble_eq_true rfl⟩ ?_
  refine v_iload_n (pc := 5) X dX4_of_5 2 rfl ?_
  refine v_iconst (pc := 6) (v := 0) X dX4_of_6 (by decide) ?_
  refine v_bipush (pc := 7) (v := 7) X dX4_of_7 (by decide) ?_
  refine v_e0S (pc := 9) (rest := [.int (f_X4_isPerson_r p0), .ref (am 0)]) (n := 3) X (c_X4_in l G p1 0 7) gX4_of_X4_in rfl rfl rfl (by decide +kernel) ⟨Nat.le_of_ble_eq_true rfl, Nat.le_of_ble_eq_true rfl⟩ dX4_of_9 rfl rfl (Nat.le_of_ble_eq_true rfl) ⟨Nat.le_of_ble_eq_true rfl, Nat.le_of_ble_eq_true rfl⟩ ?_
  refine v_iconst (pc := 12) (v := 1) X dX4_of_12 (by decide) ?_
  refine v_eV (pc := 13) (rest := []) (n := 3) (wr := ([] : va_W)) (wn := (wM G am mmi mwo mfa mre men mbY mbg mlo mnb mvo mho mro mwe mwi mba mkp mth msg mns (f_X4_goes_mtw (f_X4_isPerson_r p0) (f_X4_in_r p1 0 7) 1))) (isC := [0, 1, 2, 3, 4, 5, 6, 7, 8, 9, 10, 11, 12, 13, 14, 15]) (isR := []) (isP := [0, 1, 2, 3, 4, 5, 6, 7, 8, 9, 10, 11, 12, 13, 14, 15]) X (c_X4_goes l G am mmi mwo mfa mre men mbY mbg mlo mnb mvo mho mro mwe mwi mba mkp mth msg mns mtw (f_X4_isPerson_r p0) (f_X4_in_r p1 0 7) 1) gX4_of_X4_goes rfl rfl rfl (by decide +kernel) ⟨Nat.le_of_ble_eq_true rfl, Nat.le_of_ble_eq_true rfl⟩ dX4_of_13 rfl rfl (Nat.le_of_ble_eq_true rfl) ⟨Nat.le_of_ble_eq_true rfl, Nat.le_of_ble_eq_true rfl⟩ 0 rfl rfl ⟨rfl, rfl, rfl, rfl, by decide, rfl, rfl⟩ ?_
  refine v_if_eq (pc := 16) X 28 dX4_of_16 (by decide) (fun c_16 => ?_) (fun c_16 => ?_)
  · refine v_iconst (pc := 28) (v := 0) X dX4_of_28 (by decide) ?_
    exact v_iret (pc := 29) X hr dX4_of_29 () (by show (wM G am mmi mwo mfa mre men mbY mbg mlo mnb mvo mho mro mwe mwi mba mkp mth msg mns (f_X4_goes_mtw (f_X4_isPerson_r p0) (f_X4_in_r p1 0 7) 1)) = (wM G am mmi mwo mfa mre men mbY mbg mlo mnb mvo mho mro mwe mwi mba mkp mth msg mns (f_X4_of_mtw p0 p1)); simp only [f_X4_of_mtw, if_pos c_16]) (by show 0 = (f_X4_of_r mmi mfa men mbY mbg mlo mho mro mba p0 p1); simp only [f_X4_of_r, if_pos c_16])
  · have pin : vp_in p0 12 := mper_in (go1 c_16)
    refine v_aload_n (pc := 19) X dX4_of_19 0 rfl ?_
    refine v_iload_n (pc := 20) X dX4_of_20 1 rfl ?_
    refine v_iload_n (pc := 21) X dX4_of_21 2 rfl ?_
    refine v_eV (pc := 22) (rest := []) (n := 2) (wr := ([] : va_W)) (wn := (wM G am mmi mwo mfa mre men mbY mbg mlo mnb mvo mho mro mwe mwi mba mkp mth msg mns (f_X4_goes_mtw (f_X4_isPerson_r p0) (f_X4_in_r p1 0 7) 1))) (isC := [0, 1, 2, 3, 4, 5, 6, 7, 8, 9, 10, 11, 12, 13, 14, 15]) (isR := []) (isP := [0, 1, 2, 3, 4, 5, 6, 7, 8, 9, 10, 11, 12, 13, 14, 15]) X (c_X4_told l G am mmi mwo mfa mre men mbY mbg mlo mnb mvo mho mro mwe mwi mba mkp mth msg mns (f_X4_goes_mtw (f_X4_isPerson_r p0) (f_X4_in_r p1 0 7) 1) p0 p1 pin hby hho hlo) gX4_of_X4_told rfl rfl rfl (by decide +kernel) ⟨Nat.le_of_ble_eq_true rfl, Nat.le_of_ble_eq_true rfl⟩ dX4_of_22 rfl rfl (Nat.le_of_ble_eq_true rfl) ⟨Nat.le_of_ble_eq_true rfl, Nat.le_of_ble_eq_true rfl⟩ 0 rfl rfl ⟨rfl, rfl, rfl, rfl, by decide, rfl, rfl⟩ ?_
    refine v_goto (pc := 25) X 29 dX4_of_25 (by decide) ?_
    exact v_iret (pc := 29) X hr dX4_of_29 () (by show (wM G am mmi mwo mfa mre men mbY mbg mlo mnb mvo mho mro mwe mwi mba mkp mth msg mns (f_X4_goes_mtw (f_X4_isPerson_r p0) (f_X4_in_r p1 0 7) 1)) = (wM G am mmi mwo mfa mre men mbY mbg mlo mnb mvo mho mro mwe mwi mba mkp mth msg mns (f_X4_of_mtw p0 p1)); simp only [f_X4_of_mtw, if_neg c_16]) (by show (f_X4_told_r mmi mfa men mbY mbg mlo mho mro mba p0 p1) = (f_X4_of_r mmi mfa men mbY mbg mlo mho mro mba p0 p1); simp only [f_X4_of_r, if_neg c_16])
def f_X4_taintedAnew_r (mbY : Nat → Int32) (mlo : Nat → Int32) (mho : Nat → Int32) (mba : Nat → Int32) (p0 : Int32) : Int32 := (if (f_X4_goes_r (f_X4_isPerson_r p0) 1 1) = 0 then 0 else (if (f_X4_isTainted_r mbY mlo mho mba p0) = 0 then 0 else 1))
def f_X4_taintedAnew_mtw (p0 : Int32) : Int32 := (f_X4_goes_mtw (f_X4_isPerson_r p0) 1 1)
set_option maxHeartbeats 4000000 in
set_option maxRecDepth 100000 in
theorem c_X4_taintedAnew (l : Launch) (G : va_G) (am : Nat → Nat) (mmi : Int32) (mwo : Nat → Int32) (mfa : Nat → Int32) (mre : Nat → Int32) (men : Nat → Int32) (mbY : Nat → Int32) (mbg : Nat → Int32) (mlo : Nat → Int32) (mnb : Int32) (mvo : Int32) (mho : Nat → Int32) (mro : Nat → Int32) (mwe : Nat → Int32) (mwi : Nat → Int32) (mba : Nat → Int32) (mkp : Nat → Int32) (mth : Nat → Int32) (msg : Nat → Int32) (mns : Int32) (mtw : Int32) (p0 : Int32) (hby : ∀ j : Nat, j < 12 → mbY j = -1 ∨ vp_in (mbY j) 100) (hho : ∀ j : Nat, j < 100 → vp_in (mho j) 12) (hlo : ∀ j : Nat, j < 12 → mlo j = 0 ∨ mlo j = 1) : Ke l yX4_taintedAnew wsX4_taintedAnew { frames := 2, cells := 0, slots := 0, locals := 42 } 0 0 G (wM G am mmi mwo mfa mre men mbY mbg mlo mnb mvo mho mro mwe mwi mba mkp mth msg mns mtw) [.ref (am 0), .int p0] (f_X4_taintedAnew_r mbY mlo mho mba p0) (wM G am mmi mwo mfa mre men mbY mbg mlo mnb mvo mho mro mwe mwi mba mkp mth msg mns (f_X4_taintedAnew_mtw p0)) := by
  refine v_ofi (cc := cX4_taintedAnew) (nL := 2) (lv := [(0, .ref (am 0)), (1, .int p0)]) (by decide) rfl (Nat.le_of_ble_eq_true rfl) rfl ?_
  intro p e s m args below meth c A X hr
  refine v_aload_n (pc := 0) X dX4_taintedAnew_0 0 rfl ?_
  refine v_iload_n (pc := 1) X dX4_taintedAnew_1 1 rfl ?_
  refine v_e0S (pc := 2) (rest := [.ref (am 0)]) (n := 1) X (c_X4_isPerson l G p0) gX4_taintedAnew_X4_isPerson rfl rfl rfl (by decide +kernel) ⟨Nat.le_of_ble_eq_true rfl, Nat.le_of_ble_eq_true rfl⟩ dX4_taintedAnew_2 rfl rfl (Nat.le_of_ble_eq_true rfl) ⟨Nat.le_of_ble_eq_true rfl, Nat.le_of_ble_eq_true rfl⟩ ?_
  refine v_iconst (pc := 5) (v := 1) X dX4_taintedAnew_5 (by decide) ?_
  refine v_iconst (pc := 6) (v := 1) X dX4_taintedAnew_6 (by decide) ?_
  refine v_eV (pc := 7) (rest := []) (n := 3) (wr := ([] : va_W)) (wn := (wM G am mmi mwo mfa mre men mbY mbg mlo mnb mvo mho mro mwe mwi mba mkp mth msg mns (f_X4_goes_mtw (f_X4_isPerson_r p0) 1 1))) (isC := [0, 1, 2, 3, 4, 5, 6, 7, 8, 9, 10, 11, 12, 13, 14, 15]) (isR := []) (isP := [0, 1, 2, 3, 4, 5, 6, 7, 8, 9, 10, 11, 12, 13, 14, 15]) X (c_X4_goes l G am mmi mwo mfa mre men mbY mbg mlo mnb mvo mho mro mwe mwi mba mkp mth msg mns mtw (f_X4_isPerson_r p0) 1 1) gX4_taintedAnew_X4_goes rfl rfl rfl (by decide +kernel) ⟨Nat.le_of_ble_eq_true rfl, Nat.le_of_ble_eq_true rfl⟩ dX4_taintedAnew_7 rfl rfl (Nat.le_of_ble_eq_true rfl) ⟨Nat.le_of_ble_eq_true rfl, Nat.le_of_ble_eq_true rfl⟩ 0 rfl rfl ⟨rfl, rfl, rfl, rfl, by decide, rfl, rfl⟩ ?_
  refine v_if_eq (pc := 10) X 25 dX4_taintedAnew_10 (by decide) (fun c_10 => ?_) (fun c_10 => ?_)
  · refine v_iconst (pc := 25) (v := 0) X dX4_taintedAnew_25 (by decide) ?_
    exact v_zret (pc := 26) X hr rfl dX4_taintedAnew_26 () (by show (wM G am mmi mwo mfa mre men mbY mbg mlo mnb mvo mho mro mwe mwi mba mkp mth msg mns (f_X4_goes_mtw (f_X4_isPerson_r p0) 1 1)) = (wM G am mmi mwo mfa mre men mbY mbg mlo mnb mvo mho mro mwe mwi mba mkp mth msg mns (f_X4_taintedAnew_mtw p0)); simp only [f_X4_taintedAnew_mtw, if_pos c_10]) (by show 0 = (f_X4_taintedAnew_r mbY mlo mho mba p0); simp only [f_X4_taintedAnew_r, if_pos c_10])
  · have pin : vp_in p0 12 := mper_in (go1 c_10)
    refine v_aload_n (pc := 13) X dX4_taintedAnew_13 0 rfl ?_
    refine v_iload_n (pc := 14) X dX4_taintedAnew_14 1 rfl ?_
    refine v_eV (pc := 15) (rest := []) (n := 1) (wr := ([] : va_W)) (wn := (wM G am mmi mwo mfa mre men mbY mbg mlo mnb mvo mho mro mwe mwi mba mkp mth msg mns (f_X4_goes_mtw (f_X4_isPerson_r p0) 1 1))) (isC := [0, 1, 2, 3, 4, 5, 6, 7, 8, 9, 10, 11, 12, 13, 14, 15]) (isR := []) (isP := [0, 1, 2, 3, 4, 5, 6, 7, 8, 9, 10, 11, 12, 13, 14, 15]) X (c_X4_isTainted l G am mmi mwo mfa mre men mbY mbg mlo mnb mvo mho mro mwe mwi mba mkp mth msg mns (f_X4_goes_mtw (f_X4_isPerson_r p0) 1 1) p0 pin hby hho hlo) gX4_taintedAnew_X4_isTainted rfl rfl rfl (by decide +kernel) ⟨Nat.le_of_ble_eq_true rfl, Nat.le_of_ble_eq_true rfl⟩ dX4_taintedAnew_15 rfl rfl (Nat.le_of_ble_eq_true rfl) ⟨Nat.le_of_ble_eq_true rfl, Nat.le_of_ble_eq_true rfl⟩ 0 rfl rfl ⟨rfl, rfl, rfl, rfl, by decide, rfl, rfl⟩ ?_
    refine v_if_eq (pc := 18) X 25 dX4_taintedAnew_18 (by decide) (fun c_18 => ?_) (fun c_18 => ?_)
    · refine v_iconst (pc := 25) (v := 0) X dX4_taintedAnew_25 (by decide) ?_
      exact v_zret (pc := 26) X hr rfl dX4_taintedAnew_26 () (by show (wM G am mmi mwo mfa mre men mbY mbg mlo mnb mvo mho mro mwe mwi mba mkp mth msg mns (f_X4_goes_mtw (f_X4_isPerson_r p0) 1 1)) = (wM G am mmi mwo mfa mre men mbY mbg mlo mnb mvo mho mro mwe mwi mba mkp mth msg mns (f_X4_taintedAnew_mtw p0)); simp only [f_X4_taintedAnew_mtw, if_neg c_10, if_pos c_18]) (by show 0 = (f_X4_taintedAnew_r mbY mlo mho mba p0); simp only [f_X4_taintedAnew_r, if_neg c_10, if_pos c_18])
    · refine v_iconst (pc := 21) (v := 1) X dX4_taintedAnew_21 (by decide) ?_
      refine v_goto (pc := 22) X 26 dX4_taintedAnew_22 (by decide) ?_
      exact v_zret (pc := 26) X hr rfl dX4_taintedAnew_26 () (by show (wM G am mmi mwo mfa mre men mbY mbg mlo mnb mvo mho mro mwe mwi mba mkp mth msg mns (f_X4_goes_mtw (f_X4_isPerson_r p0) 1 1)) = (wM G am mmi mwo mfa mre men mbY mbg mlo mnb mvo mho mro mwe mwi mba mkp mth msg mns (f_X4_taintedAnew_mtw p0)); simp only [f_X4_taintedAnew_mtw, if_neg c_10, if_neg c_18]) (by show 1 = (f_X4_taintedAnew_r mbY mlo mho mba p0); simp only [f_X4_taintedAnew_r, if_neg c_10, if_neg c_18])
def f_X4_chain_r (mbY : Nat → Int32) (mho : Nat → Int32) (p0 : Int32) : Int32 := (if (f_X4_goes_r (f_X4_isPerson_r p0) 1 1) = 0 then 0 else (f_X4_chainOf_r mbY mho p0))
def f_X4_chain_mtw (p0 : Int32) : Int32 := (f_X4_goes_mtw (f_X4_isPerson_r p0) 1 1)
set_option maxHeartbeats 4000000 in
set_option maxRecDepth 100000 in
theorem c_X4_chain (l : Launch) (G : va_G) (am : Nat → Nat) (mmi : Int32) (mwo : Nat → Int32) (mfa : Nat → Int32) (mre : Nat → Int32) (men : Nat → Int32) (mbY : Nat → Int32) (mbg : Nat → Int32) (mlo : Nat → Int32) (mnb : Int32) (mvo : Int32) (mho : Nat → Int32) (mro : Nat → Int32) (mwe : Nat → Int32) (mwi : Nat → Int32) (mba : Nat → Int32) (mkp : Nat → Int32) (mth : Nat → Int32) (msg : Nat → Int32) (mns : Int32) (mtw : Int32) (p0 : Int32) (hby : ∀ j : Nat, j < 12 → mbY j = -1 ∨ vp_in (mbY j) 100) (hho : ∀ j : Nat, j < 100 → vp_in (mho j) 12) : Ke l yX4_chain wsX4_chain { frames := 2, cells := 0, slots := 0, locals := 42 } 0 0 G (wM G am mmi mwo mfa mre men mbY mbg mlo mnb mvo mho mro mwe mwi mba mkp mth msg mns mtw) [.ref (am 0), .int p0] (f_X4_chain_r mbY mho p0) (wM G am mmi mwo mfa mre men mbY mbg mlo mnb mvo mho mro mwe mwi mba mkp mth msg mns (f_X4_chain_mtw p0)) := by
  refine v_ofi (cc := cX4_chain) (nL := 2) (lv := [(0, .ref (am 0)), (1, .int p0)]) (by decide) rfl (Nat.le_of_ble_eq_true rfl) rfl ?_
  intro p e s m args below meth c A X hr
  refine v_aload_n (pc := 0) X dX4_chain_0 0 rfl ?_
  refine v_iload_n (pc := 1) X dX4_chain_1 1 rfl ?_
  refine v_e0S (pc := 2) (rest := [.ref (am 0)]) (n := 1) X (c_X4_isPerson l G p0) gX4_chain_X4_isPerson rfl rfl rfl (by decide +kernel) ⟨Nat.le_of_ble_eq_true rfl, Nat.le_of_ble_eq_true rfl⟩ dX4_chain_2 rfl rfl (Nat.le_of_ble_eq_true rfl) ⟨Nat.le_of_ble_eq_true rfl, Nat.le_of_ble_eq_true rfl⟩ ?_
  refine v_iconst (pc := 5) (v := 1) X dX4_chain_5 (by decide) ?_
  refine v_iconst (pc := 6) (v := 1) X dX4_chain_6 (by decide) ?_
  refine v_eV (pc := 7) (rest := []) (n := 3) (wr := ([] : va_W)) (wn := (wM G am mmi mwo mfa mre men mbY mbg mlo mnb mvo mho mro mwe mwi mba mkp mth msg mns (f_X4_goes_mtw (f_X4_isPerson_r p0) 1 1))) (isC := [0, 1, 2, 3, 4, 5, 6, 7, 8, 9, 10, 11, 12, 13, 14, 15]) (isR := []) (isP := [0, 1, 2, 3, 4, 5, 6, 7, 8, 9, 10, 11, 12, 13, 14, 15]) X (c_X4_goes l G am mmi mwo mfa mre men mbY mbg mlo mnb mvo mho mro mwe mwi mba mkp mth msg mns mtw (f_X4_isPerson_r p0) 1 1) gX4_chain_X4_goes rfl rfl rfl (by decide +kernel) ⟨Nat.le_of_ble_eq_true rfl, Nat.le_of_ble_eq_true rfl⟩ dX4_chain_7 rfl rfl (Nat.le_of_ble_eq_true rfl) ⟨Nat.le_of_ble_eq_true rfl, Nat.le_of_ble_eq_true rfl⟩ 0 rfl rfl ⟨rfl, rfl, rfl, rfl, by decide, rfl, rfl⟩ ?_
  refine v_if_eq (pc := 10) X 21 dX4_chain_10 (by decide) (fun c_10 => ?_) (fun c_10 => ?_)
  · refine v_iconst (pc := 21) (v := 0) X dX4_chain_21 (by decide) ?_
    exact v_iret (pc := 22) X hr dX4_chain_22 () (by show (wM G am mmi mwo mfa mre men mbY mbg mlo mnb mvo mho mro mwe mwi mba mkp mth msg mns (f_X4_goes_mtw (f_X4_isPerson_r p0) 1 1)) = (wM G am mmi mwo mfa mre men mbY mbg mlo mnb mvo mho mro mwe mwi mba mkp mth msg mns (f_X4_chain_mtw p0)); simp only [f_X4_chain_mtw, if_pos c_10]) (by show 0 = (f_X4_chain_r mbY mho p0); simp only [f_X4_chain_r, if_pos c_10])
  · have pin : vp_in p0 12 := mper_in (go1 c_10)
    refine v_aload_n (pc := 13) X dX4_chain_13 0 rfl ?_
    refine v_iload_n (pc := 14) X dX4_chain_14 1 rfl ?_
    refine v_eV (pc := 15) (rest := []) (n := 1) (wr := ([] : va_W)) (wn := (wM G am mmi mwo mfa mre men mbY mbg mlo mnb mvo mho mro mwe mwi mba mkp mth msg mns (f_X4_goes_mtw (f_X4_isPerson_r p0) 1 1))) (isC := [0, 1, 2, 3, 4, 5, 6, 7, 8, 9, 10, 11, 12, 13, 14, 15]) (isR := []) (isP := [0, 1, 2, 3, 4, 5, 6, 7, 8, 9, 10, 11, 12, 13, 14, 15]) X (c_X4_chainOf l G am mmi mwo mfa mre men mbY mbg mlo mnb mvo mho mro mwe mwi mba mkp mth msg mns (f_X4_goes_mtw (f_X4_isPerson_r p0) 1 1) p0 pin hby hho) gX4_chain_X4_chainOf rfl rfl rfl (by decide +kernel) ⟨Nat.le_of_ble_eq_true rfl, Nat.le_of_ble_eq_true rfl⟩ dX4_chain_15 rfl rfl (Nat.le_of_ble_eq_true rfl) ⟨Nat.le_of_ble_eq_true rfl, Nat.le_of_ble_eq_true rfl⟩ 0 rfl rfl ⟨rfl, rfl, rfl, rfl, by decide, rfl, rfl⟩ ?_
    refine v_goto (pc := 18) X 22 dX4_chain_18 (by decide) ?_
    exact v_iret (pc := 22) X hr dX4_chain_22 () (by show (wM G am mmi mwo mfa mre men mbY mbg mlo mnb mvo mho mro mwe mwi mba mkp mth msg mns (f_X4_goes_mtw (f_X4_isPerson_r p0) 1 1)) = (wM G am mmi mwo mfa mre men mbY mbg mlo mnb mvo mho mro mwe mwi mba mkp mth msg mns (f_X4_chain_mtw p0)); simp only [f_X4_chain_mtw, if_neg c_10]) (by show (f_X4_chainOf_r mbY mho p0) = (f_X4_chain_r mbY mho p0); simp only [f_X4_chain_r, if_neg c_10])
def f_X4_keyOf_r (mmi : Int32) (men : Nat → Int32) (mbY : Nat → Int32) (mlo : Nat → Int32) (mho : Nat → Int32) (mba : Nat → Int32) (mkp : Nat → Int32) (mth : Nat → Int32) (p0 : Int32) (p1 : Int32) : Int32 := (if (f_X4_goes_r (f_X4_isKey_r p0) (f_X4_in_r p1 0 2) 1) = 0 then 0 else (if p1 = 0 then (mkp (p0).toNatClampNeg) else (if p1 = 1 then (mth (p0).toNatClampNeg) else (f_X4_users_r mmi men mbY mlo mho mba mkp p0))))
def f_X4_keyOf_mtw (p0 : Int32) (p1 : Int32) : Int32 := (f_X4_goes_mtw (f_X4_isKey_r p0) (f_X4_in_r p1 0 2) 1)
set_option maxHeartbeats 4000000 in
set_option maxRecDepth 100000 in
theorem c_X4_keyOf (l : Launch) (G : va_G) (am : Nat → Nat) (mmi : Int32) (mwo : Nat → Int32) (mfa : Nat → Int32) (mre : Nat → Int32) (men : Nat → Int32) (mbY : Nat → Int32) (mbg : Nat → Int32) (mlo : Nat → Int32) (mnb : Int32) (mvo : Int32) (mho : Nat → Int32) (mro : Nat → Int32) (mwe : Nat → Int32) (mwi : Nat → Int32) (mba : Nat → Int32) (mkp : Nat → Int32) (mth : Nat → Int32) (msg : Nat → Int32) (mns : Int32) (mtw : Int32) (p0 : Int32) (p1 : Int32) (hby : ∀ j : Nat, j < 12 → mbY j = -1 ∨ vp_in (mbY j) 100) (hho : ∀ j : Nat, j < 100 → vp_in (mho j) 12) (hlo : ∀ j : Nat, j < 12 → mlo j = 0 ∨ mlo j = 1) : Ke l yX4_keyOf wsX4_keyOf { frames := 4, cells := 0, slots := 0, locals := 88 } 0 0 G (wM G am mmi mwo mfa mre men mbY mbg mlo mnb mvo mho mro mwe mwi mba mkp mth msg mns mtw) [.ref (am 0), .int p0, .int p1] (f_X4_keyOf_r mmi men mbY mlo mho mba mkp mth p0 p1) (wM G am mmi mwo mfa mre men mbY mbg mlo mnb mvo mho mro mwe mwi mba mkp mth msg mns (f_X4_keyOf_mtw p0 p1)) := by
  refine v_ofi (cc := cX4_keyOf) (nL := 3) (lv := [(0, .ref (am 0)), (1, .int p0), (2, .int p1)]) (by decide) rfl (Nat.le_of_ble_eq_true rfl) rfl ?_
  intro p e s m args below meth c A X hr
  refine v_aload_n (pc := 0) X dX4_keyOf_0 0 rfl ?_
  refine v_iload_n (pc := 1) X dX4_keyOf_1 1 rfl ?_
  refine v_e0S (pc := 2) (rest := [.ref (am 0)]) (n := 1) X (c_X4_isKey l G p0) gX4_keyOf_X4_isKey rfl rfl rfl (by decide +kernel) ⟨Nat.le_of_ble_eq_true rfl, Nat.le_of_ble_eq_true rfl⟩ dX4_keyOf_2 rfl rfl (Nat.le_of_ble_eq_true rfl) ⟨Nat.le_of_ble_eq_true rfl, Nat.le_of_ble_eq_true rfl⟩ ?_
  refine v_iload_n (pc := 5) X dX4_keyOf_5 2 rfl ?_
  refine v_iconst (pc := 6) (v := 0) X dX4_keyOf_6 (by decide) ?_
  refine v_iconst (pc := 7) (v := 2) X dX4_keyOf_7 (by decide) ?_
  refine v_e0S (pc := 8) (rest := [.int (f_X4_isKey_r p0), .ref (am 0)]) (n := 3) X (c_X4_in l G p1 0 2) gX4_keyOf_X4_in rfl rfl rfl (by decide +kernel) ⟨Nat.le_of_ble_eq_true rfl, Nat.le_of_ble_eq_true rfl⟩ dX4_keyOf_8 rfl rfl (Nat.le_of_ble_eq_true rfl) ⟨Nat.le_of_ble_eq_true rfl, Nat.le_of_ble_eq_true rfl⟩ ?_
  refine v_iconst (pc := 11) (v := 1) X dX4_keyOf_11 (by decide) ?_
  refine v_eV (pc := 12) (rest := []) (n := 3) (wr := ([] : va_W)) (wn := (wM G am mmi mwo mfa mre men mbY mbg mlo mnb mvo mho mro mwe mwi mba mkp mth msg mns (f_X4_goes_mtw (f_X4_isKey_r p0) (f_X4_in_r p1 0 2) 1))) (isC := [0, 1, 2, 3, 4, 5, 6, 7, 8, 9, 10, 11, 12, 13, 14, 15]) (isR := []) (isP := [0, 1, 2, 3, 4, 5, 6, 7, 8, 9, 10, 11, 12, 13, 14, 15]) X (c_X4_goes l G am mmi mwo mfa mre men mbY mbg mlo mnb mvo mho mro mwe mwi mba mkp mth msg mns mtw (f_X4_isKey_r p0) (f_X4_in_r p1 0 2) 1) gX4_keyOf_X4_goes rfl rfl rfl (by decide +kernel) ⟨Nat.le_of_ble_eq_true rfl, Nat.le_of_ble_eq_true rfl⟩ dX4_keyOf_12 rfl rfl (Nat.le_of_ble_eq_true rfl) ⟨Nat.le_of_ble_eq_true rfl, Nat.le_of_ble_eq_true rfl⟩ 0 rfl rfl ⟨rfl, rfl, rfl, rfl, by decide, rfl, rfl⟩ ?_
  refine v_if_ne (pc := 15) X 20 dX4_keyOf_15 (by decide) (fun c_15 => ?_) (fun c_15 => ?_)
  · have pin : vp_in p0 4 := mkey_in (go1 c_15)
    refine v_iload_n (pc := 20) X dX4_keyOf_20 2 rfl ?_
    refine v_if_ne (pc := 21) X 33 dX4_keyOf_21 (by decide) (fun c_21 => ?_) (fun c_21 => ?_)
    · refine v_iload_n (pc := 33) X dX4_keyOf_33 2 rfl ?_
      refine v_iconst (pc := 34) (v := 1) X dX4_keyOf_34 (by decide) ?_
      refine v_icmp_ne (pc := 35) X 47 dX4_keyOf_35 (by decide) (fun c_35 => ?_) (fun c_35 => ?_)
      · refine v_aload_n (pc := 47) X dX4_keyOf_47 0 rfl ?_
        refine v_iload_n (pc := 48) X dX4_keyOf_48 1 rfl ?_
        refine v_eV (pc := 49) (rest := []) (n := 1) (wr := ([] : va_W)) (wn := (wM G am mmi mwo mfa mre men mbY mbg mlo mnb mvo mho mro mwe mwi mba mkp mth msg mns (f_X4_goes_mtw (f_X4_isKey_r p0) (f_X4_in_r p1 0 2) 1))) (isC := [0, 1, 2, 3, 4, 5, 6, 7, 8, 9, 10, 11, 12, 13, 14, 15]) (isR := []) (isP := [0, 1, 2, 3, 4, 5, 6, 7, 8, 9, 10, 11, 12, 13, 14, 15]) X (c_X4_users l G am mmi mwo mfa mre men mbY mbg mlo mnb mvo mho mro mwe mwi mba mkp mth msg mns (f_X4_goes_mtw (f_X4_isKey_r p0) (f_X4_in_r p1 0 2) 1) p0 pin hby hho hlo) gX4_keyOf_X4_users rfl rfl rfl (by decide +kernel) ⟨Nat.le_of_ble_eq_true rfl, Nat.le_of_ble_eq_true rfl⟩ dX4_keyOf_49 rfl rfl (Nat.le_of_ble_eq_true rfl) ⟨Nat.le_of_ble_eq_true rfl, Nat.le_of_ble_eq_true rfl⟩ 0 rfl rfl ⟨rfl, rfl, rfl, rfl, by decide, rfl, rfl⟩ ?_
        exact v_iret (pc := 52) X hr dX4_keyOf_52 () (by show (wM G am mmi mwo mfa mre men mbY mbg mlo mnb mvo mho mro mwe mwi mba mkp mth msg mns (f_X4_goes_mtw (f_X4_isKey_r p0) (f_X4_in_r p1 0 2) 1)) = (wM G am mmi mwo mfa mre men mbY mbg mlo mnb mvo mho mro mwe mwi mba mkp mth msg mns (f_X4_keyOf_mtw p0 p1)); simp only [f_X4_keyOf_mtw, if_neg c_15, if_neg c_21, if_neg c_35]) (by show (f_X4_users_r mmi men mbY mlo mho mba mkp p0) = (f_X4_keyOf_r mmi men mbY mlo mho mba mkp mth p0 p1); simp only [f_X4_keyOf_r, if_neg c_15, if_neg c_21, if_neg c_35])
      · refine v_aload_n (pc := 38) X dX4_keyOf_38 0 rfl ?_
        refine v_get (pc := 39) (k := 16) (i := 2) X dX4_keyOf_39 (fun _ h => List.mem_cons_of_mem _ (List.mem_append_right _ h)) 0 rfl rfl (Nat.le_of_ble_eq_true rfl) rfl rfl rfl ?_
        refine v_iload_n (pc := 42) X dX4_keyOf_42 1 rfl ?_
        refine v_iald (pc := 43) X dX4_keyOf_43 14 rfl pin rfl ?_
        refine v_goto (pc := 44) X 52 dX4_keyOf_44 (by decide) ?_
        exact v_iret (pc := 52) X hr dX4_keyOf_52 () (by show (wM G am mmi mwo mfa mre men mbY mbg mlo mnb mvo mho mro mwe mwi mba mkp mth msg mns (f_X4_goes_mtw (f_X4_isKey_r p0) (f_X4_in_r p1 0 2) 1)) = (wM G am mmi mwo mfa mre men mbY mbg mlo mnb mvo mho mro mwe mwi mba mkp mth msg mns (f_X4_keyOf_mtw p0 p1)); simp only [f_X4_keyOf_mtw, if_neg c_15, if_neg c_21, if_pos c_35]) (by show (mth (p0).toNatClampNeg) = (f_X4_keyOf_r mmi men mbY mlo mho mba mkp mth p0 p1); simp only [f_X4_keyOf_r, if_neg c_15, if_neg c_21, if_pos c_35])
    · refine v_aload_n (pc := 24) X dX4_keyOf_24 0 rfl ?_
      refine v_get (pc := 25) (k := 15) (i := 1) X dX4_keyOf_25 (fun _ h => List.mem_cons_of_mem _ (List.mem_append_right _ h)) 0 rfl rfl (Nat.le_of_ble_eq_true rfl) rfl rfl rfl ?_
      refine v_iload_n (pc := 28) X dX4_keyOf_28 1 rfl ?_
      refine v_iald (pc := 29) X dX4_keyOf_29 13 rfl pin rfl ?_
      refine v_goto (pc := 30) X 52 dX4_keyOf_30 (by decide) ?_
      exact v_iret (pc := 52) X hr dX4_keyOf_52 () (by show (wM G am mmi mwo mfa mre men mbY mbg mlo mnb mvo mho mro mwe mwi mba mkp mth msg mns (f_X4_goes_mtw (f_X4_isKey_r p0) (f_X4_in_r p1 0 2) 1)) = (wM G am mmi mwo mfa mre men mbY mbg mlo mnb mvo mho mro mwe mwi mba mkp mth msg mns (f_X4_keyOf_mtw p0 p1)); simp only [f_X4_keyOf_mtw, if_neg c_15, if_pos c_21]) (by show (mkp (p0).toNatClampNeg) = (f_X4_keyOf_r mmi men mbY mlo mho mba mkp mth p0 p1); simp only [f_X4_keyOf_r, if_neg c_15, if_pos c_21])
  · refine v_iconst (pc := 18) (v := 0) X dX4_keyOf_18 (by decide) ?_
    exact v_iret (pc := 19) X hr dX4_keyOf_19 () (by show (wM G am mmi mwo mfa mre men mbY mbg mlo mnb mvo mho mro mwe mwi mba mkp mth msg mns (f_X4_goes_mtw (f_X4_isKey_r p0) (f_X4_in_r p1 0 2) 1)) = (wM G am mmi mwo mfa mre men mbY mbg mlo mnb mvo mho mro mwe mwi mba mkp mth msg mns (f_X4_keyOf_mtw p0 p1)); simp only [f_X4_keyOf_mtw, if_pos c_15]) (by show 0 = (f_X4_keyOf_r mmi men mbY mlo mho mba mkp mth p0 p1); simp only [f_X4_keyOf_r, if_pos c_15])
def f_X4_puts_msg (msg : Nat → Int32) (mns : Int32) (p0 : Int32) : Nat → Int32 := (upd msg (mns).toNatClampNeg (vp_nar .char (((p0).toUInt32 % 65536).toInt32)))
def f_X4_puts_mns (mns : Int32) : Int32 := (mns + 1)
set_option maxHeartbeats 4000000 in
set_option maxRecDepth 100000 in
theorem c_X4_puts (l : Launch) (G : va_G) (am : Nat → Nat) (mmi : Int32) (mwo : Nat → Int32) (mfa : Nat → Int32) (mre : Nat → Int32) (men : Nat → Int32) (mbY : Nat → Int32) (mbg : Nat → Int32) (mlo : Nat → Int32) (mnb : Int32) (mvo : Int32) (mho : Nat → Int32) (mro : Nat → Int32) (mwe : Nat → Int32) (mwi : Nat → Int32) (mba : Nat → Int32) (mkp : Nat → Int32) (mth : Nat → Int32) (msg : Nat → Int32) (mns : Int32) (mtw : Int32) (p0 : Int32) (hns : vp_in mns 16) : Ku l yX4_puts wsX4_puts { frames := 0, cells := 0, slots := 0, locals := 0 } 0 0 G (wM G am mmi mwo mfa mre men mbY mbg mlo mnb mvo mho mro mwe mwi mba mkp mth msg mns mtw) [.ref (am 0), .int p0] (wM G am mmi mwo mfa mre men mbY mbg mlo mnb mvo mho mro mwe mwi mba mkp mth (f_X4_puts_msg msg mns p0) (f_X4_puts_mns mns) mtw) := by
  refine v_ofv (cc := cX4_puts) (nL := 2) (lv := [(0, .ref (am 0)), (1, .int p0)]) (by decide) rfl (Nat.le_of_ble_eq_true rfl) rfl ?_
  intro p e s m args below meth c A X hr hin
  refine v_aload_n (pc := 0) X dX4_puts_0 0 rfl ?_
  refine v_get (pc := 1) (k := 17) (i := 1) X dX4_puts_1 (fun _ h => List.mem_cons_of_mem _ (List.mem_append_right _ h)) 0 rfl rfl (Nat.le_of_ble_eq_true rfl) rfl rfl rfl ?_
  refine v_aload_n (pc := 4) X dX4_puts_4 0 rfl ?_
  refine v_get (pc := 5) (k := 18) (i := 2) X dX4_puts_5 (fun _ h => List.mem_cons_of_mem _ (List.mem_append_right _ h)) 0 rfl rfl (Nat.le_of_ble_eq_true rfl) rfl rfl rfl ?_
  refine v_iload_n (pc := 8) X dX4_puts_8 1 rfl ?_
  refine v_i2c (pc := 9) X dX4_puts_9 rfl ?_
  refine v_cast (pc := 10) (ws' := (wM G am mmi mwo mfa mre men mbY mbg mlo mnb mvo mho mro mwe mwi mba mkp mth (upd msg (mns).toNatClampNeg (vp_nar .char (((p0).toUInt32 % 65536).toInt32))) mns mtw)) X dX4_puts_10 15 rfl hns rfl ?_
  refine v_aload_n (pc := 11) X dX4_puts_11 0 rfl ?_
  refine v_dup (pc := 12) X dX4_puts_12 rfl ?_
  refine v_get (pc := 13) (k := 18) (i := 2) X dX4_puts_13 (fun _ h => List.mem_cons_of_mem _ (List.mem_append_right _ h)) 0 rfl rfl (Nat.le_of_ble_eq_true rfl) rfl rfl rfl ?_
  refine v_iconst (pc := 16) (v := 1) X dX4_puts_16 (by decide) ?_
  refine v_iadd (pc := 17) X dX4_puts_17 rfl ?_
  refine v_put (pc := 18) (k := 18) (i := 2) (ws' := (wM G am mmi mwo mfa mre men mbY mbg mlo mnb mvo mho mro mwe mwi mba mkp mth (upd msg (mns).toNatClampNeg (vp_nar .char (((p0).toUInt32 % 65536).toInt32))) (mns + 1) mtw)) X dX4_puts_18 (fun _ h => List.mem_cons_of_mem _ (List.mem_append_right _ h)) tyX4_ok nmX4 0 rfl rfl (Nat.le_of_ble_eq_true rfl) rfl rfl (Or.inl rfl) rfl (rfl) rfl (Nat.le_of_ble_eq_true rfl) rfl ?_
  exact v_vret (pc := 21) X hr dX4_puts_21 () (by show (wM G am mmi mwo mfa mre men mbY mbg mlo mnb mvo mho mro mwe mwi mba mkp mth (upd msg (mns).toNatClampNeg (vp_nar .char (((p0).toUInt32 % 65536).toInt32))) (mns + 1) mtw) = (wM G am mmi mwo mfa mre men mbY mbg mlo mnb mvo mho mro mwe mwi mba mkp mth (f_X4_puts_msg msg mns p0) (f_X4_puts_mns mns) mtw); simp only [f_X4_puts_msg, f_X4_puts_mns]) True.intro
