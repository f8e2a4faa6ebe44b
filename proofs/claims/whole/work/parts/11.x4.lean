def f_X4_thrown_r (mtw : Int32) : Int32 := mtw
set_option maxHeartbeats 4000000 in
set_option maxRecDepth 100000 in
theorem c_X4_thrown (l : Launch) (G : va_G) (am : Nat → Nat) (mmi : Int32) (mwo : Nat → Int32) (mfa : Nat → Int32) (mre : Nat → Int32) (men : Nat → Int32) (mbY : Nat → Int32) (mbg : Nat → Int32) (mlo : Nat → Int32) (mnb : Int32) (mvo : Int32) (mho : Nat → Int32) (mro : Nat → Int32) (mwe : Nat → Int32) (mwi : Nat → Int32) (mba : Nat → Int32) (mkp : Nat → Int32) (mth : Nat → Int32) (msg : Nat → Int32) (mns : Int32) (mtw : Int32) : Ke l yX4_thrown wsX4_thrown { frames := 0, cells := 0, slots := 0, locals := 0 } 0 0 G (wM G am mmi mwo mfa mre men mbY mbg mlo mnb mvo mho mro mwe mwi mba mkp mth msg mns mtw) [.ref (am 0)] (f_X4_thrown_r mtw) (wM G am mmi mwo mfa mre men mbY mbg mlo mnb mvo mho mro mwe mwi mba mkp mth msg mns mtw) := by
  refine v_ofi (cc := cX4_thrown) (nL := 1) (lv := [(0, .ref (am 0))]) (by decide) rfl (Nat.le_of_ble_eq_true rfl) rfl ?_
  intro p e s m args below meth c A X hr
  refine v_aload_n (pc := 0) X dX4_thrown_0 0 rfl ?_
  refine v_get (pc := 1) (k := 19) (i := 1) X dX4_thrown_1 (fun _ h => List.mem_cons_of_mem _ (List.mem_append_right _ h)) 0 rfl rfl (Nat.le_of_ble_eq_true rfl) rfl rfl rfl ?_
  exact v_iret (pc := 4) X hr dX4_thrown_4 () rfl (by show mtw = (f_X4_thrown_r mtw); simp only [f_X4_thrown_r])
def f_X4_in_r (p0 : Int32) (p1 : Int32) (p2 : Int32) : Int32 := (if p0 < p1 then 0 else (if p2 < p0 then 0 else 1))
set_option maxHeartbeats 4000000 in
set_option maxRecDepth 100000 in
theorem c_X4_in (l : Launch) (G : va_G) (p0 : Int32) (p1 : Int32) (p2 : Int32) : Ke l yX4_in wsX4_in { frames := 0, cells := 0, slots := 0, locals := 0 } 0 0 G ([] : va_W) [.int p0, .int p1, .int p2] (f_X4_in_r p0 p1 p2) ([] : va_W) := by
  refine v_ofi (cc := cX4_in) (nL := 3) (lv := [(0, .int p0), (1, .int p1), (2, .int p2)]) (by decide) rfl (Nat.le_of_ble_eq_true rfl) rfl ?_
  intro p e s m args below meth c A X hr
  refine v_iload_n (pc := 0) X dX4_in_0 0 rfl ?_
  refine v_iload_n (pc := 1) X dX4_in_1 1 rfl ?_
  refine v_icmp_lt (pc := 2) X 14 dX4_in_2 (by decide) (fun c_2 => ?_) (fun c_2 => ?_)
  · refine v_iconst (pc := 14) (v := 0) X dX4_in_14 (by decide) ?_
    exact v_zret (pc := 15) X hr rfl dX4_in_15 () rfl (by show 0 = (f_X4_in_r p0 p1 p2); simp only [f_X4_in_r, if_pos c_2])
  · refine v_iload_n (pc := 5) X dX4_in_5 0 rfl ?_
    refine v_iload_n (pc := 6) X dX4_in_6 2 rfl ?_
    refine v_icmp_gt (pc := 7) X 14 dX4_in_7 (by decide) (fun c_7 => ?_) (fun c_7 => ?_)
    · refine v_iconst (pc := 14) (v := 0) X dX4_in_14 (by decide) ?_
      exact v_zret (pc := 15) X hr rfl dX4_in_15 () rfl (by show 0 = (f_X4_in_r p0 p1 p2); simp only [f_X4_in_r, if_neg c_2, if_pos c_7])
    · refine v_iconst (pc := 10) (v := 1) X dX4_in_10 (by decide) ?_
      refine v_goto (pc := 11) X 15 dX4_in_11 (by decide) ?_
      exact v_zret (pc := 15) X hr rfl dX4_in_15 () rfl (by show 1 = (f_X4_in_r p0 p1 p2); simp only [f_X4_in_r, if_neg c_2, if_neg c_7])
theorem z_in (x y z : Int32) : narrow .boolean (.int (f_X4_in_r x y z)) = .int (f_X4_in_r x y z) := by
  unfold f_X4_in_r
  split
  · rfl
  · split <;> rfl
def f_X4_goes_r (p0 : Int32) (p1 : Int32) (p2 : Int32) : Int32 := (if p0 = 0 then 0 else (if p1 = 0 then 0 else (if p2 = 0 then 0 else 1)))
def f_X4_goes_mtw (p0 : Int32) (p1 : Int32) (p2 : Int32) : Int32 := (if p0 = 0 then 1 else (if p1 = 0 then 2 else (if p2 = 0 then 3 else 0)))
set_option maxHeartbeats 4000000 in
set_option maxRecDepth 100000 in
theorem c_X4_goes (l : Launch) (G : va_G) (am : Nat → Nat) (mmi : Int32) (mwo : Nat → Int32) (mfa : Nat → Int32) (mre : Nat → Int32) (men : Nat → Int32) (mbY : Nat → Int32) (mbg : Nat → Int32) (mlo : Nat → Int32) (mnb : Int32) (mvo : Int32) (mho : Nat → Int32) (mro : Nat → Int32) (mwe : Nat → Int32) (mwi : Nat → Int32) (mba : Nat → Int32) (mkp : Nat → Int32) (mth : Nat → Int32) (msg : Nat → Int32) (mns : Int32) (mtw : Int32) (p0 : Int32) (p1 : Int32) (p2 : Int32) : Ke l yX4_goes wsX4_goes { frames := 0, cells := 0, slots := 0, locals := 0 } 0 0 G (wM G am mmi mwo mfa mre men mbY mbg mlo mnb mvo mho mro mwe mwi mba mkp mth msg mns mtw) [.ref (am 0), .int p0, .int p1, .int p2] (f_X4_goes_r p0 p1 p2) (wM G am mmi mwo mfa mre men mbY mbg mlo mnb mvo mho mro mwe mwi mba mkp mth msg mns (f_X4_goes_mtw p0 p1 p2)) := by
  refine v_ofi (cc := cX4_goes) (nL := 4) (lv := [(0, .ref (am 0)), (1, .int p0), (2, .int p1), (3, .int p2)]) (by decide) rfl (Nat.le_of_ble_eq_true rfl) rfl ?_
  intro p e s m args below meth c A X hr
  refine v_aload_n (pc := 0) X dX4_goes_0 0 rfl ?_
  refine v_iload_n (pc := 1) X dX4_goes_1 1 rfl ?_
  refine v_if_ne (pc := 2) X 9 dX4_goes_2 (by decide) (fun c_2 => ?_) (fun c_2 => ?_)
  · refine v_iload_n (pc := 9) X dX4_goes_9 2 rfl ?_
    refine v_if_ne (pc := 10) X 17 dX4_goes_10 (by decide) (fun c_10 => ?_) (fun c_10 => ?_)
    · refine v_iload_n (pc := 17) X dX4_goes_17 3 rfl ?_
      refine v_if_ne (pc := 18) X 25 dX4_goes_18 (by decide) (fun c_18 => ?_) (fun c_18 => ?_)
      · refine v_iconst (pc := 25) (v := 0) X dX4_goes_25 (by decide) ?_
        refine v_put (pc := 26) (k := 19) (i := 1) (ws' := (wM G am mmi mwo mfa mre men mbY mbg mlo mnb mvo mho mro mwe mwi mba mkp mth msg mns 0)) X dX4_goes_26 (fun _ h => List.mem_cons_of_mem _ (List.mem_append_right _ h)) tyX4_ok nmX4 0 rfl rfl (Nat.le_of_ble_eq_true rfl) rfl rfl (Or.inl rfl) rfl (rfl) rfl (Nat.le_of_ble_eq_true rfl) rfl ?_
        refine v_aload_n (pc := 29) X dX4_goes_29 0 rfl ?_
        refine v_get (pc := 30) (k := 19) (i := 1) X dX4_goes_30 (fun _ h => List.mem_cons_of_mem _ (List.mem_append_right _ h)) 0 rfl rfl (Nat.le_of_ble_eq_true rfl) rfl rfl rfl ?_
        refine v_if_ne (pc := 33) X 40 dX4_goes_33 (by decide) (fun c_33 => ?_) (fun c_33 => ?_)
        · exact absurd c_33 (by decide)
        · refine v_iconst (pc := 36) (v := 1) X dX4_goes_36 (by decide) ?_
          refine v_goto (pc := 37) X 41 dX4_goes_37 (by decide) ?_
          exact v_zret (pc := 41) X hr rfl dX4_goes_41 () (by show (wM G am mmi mwo mfa mre men mbY mbg mlo mnb mvo mho mro mwe mwi mba mkp mth msg mns 0) = (wM G am mmi mwo mfa mre men mbY mbg mlo mnb mvo mho mro mwe mwi mba mkp mth msg mns (f_X4_goes_mtw p0 p1 p2)); simp only [f_X4_goes_mtw, if_neg c_2, if_neg c_10, if_neg c_18, if_pos c_33]) (by show 1 = (f_X4_goes_r p0 p1 p2); simp only [f_X4_goes_r, if_neg c_2, if_neg c_10, if_neg c_18, if_pos c_33])
      · refine v_iconst (pc := 21) (v := 3) X dX4_goes_21 (by decide) ?_
        refine v_goto (pc := 22) X 26 dX4_goes_22 (by decide) ?_
        refine v_put (pc := 26) (k := 19) (i := 1) (ws' := (wM G am mmi mwo mfa mre men mbY mbg mlo mnb mvo mho mro mwe mwi mba mkp mth msg mns 3)) X dX4_goes_26 (fun _ h => List.mem_cons_of_mem _ (List.mem_append_right _ h)) tyX4_ok nmX4 0 rfl rfl (Nat.le_of_ble_eq_true rfl) rfl rfl (Or.inl rfl) rfl (rfl) rfl (Nat.le_of_ble_eq_true rfl) rfl ?_
        refine v_aload_n (pc := 29) X dX4_goes_29 0 rfl ?_
        refine v_get (pc := 30) (k := 19) (i := 1) X dX4_goes_30 (fun _ h => List.mem_cons_of_mem _ (List.mem_append_right _ h)) 0 rfl rfl (Nat.le_of_ble_eq_true rfl) rfl rfl rfl ?_
        refine v_if_ne (pc := 33) X 40 dX4_goes_33 (by decide) (fun c_33 => ?_) (fun c_33 => ?_)
        · refine v_iconst (pc := 40) (v := 0) X dX4_goes_40 (by decide) ?_
          exact v_zret (pc := 41) X hr rfl dX4_goes_41 () (by show (wM G am mmi mwo mfa mre men mbY mbg mlo mnb mvo mho mro mwe mwi mba mkp mth msg mns 3) = (wM G am mmi mwo mfa mre men mbY mbg mlo mnb mvo mho mro mwe mwi mba mkp mth msg mns (f_X4_goes_mtw p0 p1 p2)); simp only [f_X4_goes_mtw, if_neg c_2, if_neg c_10, if_pos c_18, if_neg c_33]) (by show 0 = (f_X4_goes_r p0 p1 p2); simp only [f_X4_goes_r, if_neg c_2, if_neg c_10, if_pos c_18, if_neg c_33])
        · exact absurd c_33 (by decide)
    · refine v_iconst (pc := 13) (v := 2) X dX4_goes_13 (by decide) ?_
      refine v_goto (pc := 14) X 26 dX4_goes_14 (by decide) ?_
      refine v_put (pc := 26) (k := 19) (i := 1) (ws' := (wM G am mmi mwo mfa mre men mbY mbg mlo mnb mvo mho mro mwe mwi mba mkp mth msg mns 2)) X dX4_goes_26 (fun _ h => List.mem_cons_of_mem _ (List.mem_append_right _ h)) tyX4_ok nmX4 0 rfl rfl (Nat.le_of_ble_eq_true rfl) rfl rfl (Or.inl rfl) rfl (rfl) rfl (Nat.le_of_ble_eq_true rfl) rfl ?_
      refine v_aload_n (pc := 29) X dX4_goes_29 0 rfl ?_
      refine v_get (pc := 30) (k := 19) (i := 1) X dX4_goes_30 (fun _ h => List.mem_cons_of_mem _ (List.mem_append_right _ h)) 0 rfl rfl (Nat.le_of_ble_eq_true rfl) rfl rfl rfl ?_
      refine v_if_ne (pc := 33) X 40 dX4_goes_33 (by decide) (fun c_33 => ?_) (fun c_33 => ?_)
      · refine v_iconst (pc := 40) (v := 0) X dX4_goes_40 (by decide) ?_
        exact v_zret (pc := 41) X hr rfl dX4_goes_41 () (by show (wM G am mmi mwo mfa mre men mbY mbg mlo mnb mvo mho mro mwe mwi mba mkp mth msg mns 2) = (wM G am mmi mwo mfa mre men mbY mbg mlo mnb mvo mho mro mwe mwi mba mkp mth msg mns (f_X4_goes_mtw p0 p1 p2)); simp only [f_X4_goes_mtw, if_neg c_2, if_pos c_10, if_neg c_33]) (by show 0 = (f_X4_goes_r p0 p1 p2); simp only [f_X4_goes_r, if_neg c_2, if_pos c_10, if_neg c_33])
      · exact absurd c_33 (by decide)
  · refine v_iconst (pc := 5) (v := 1) X dX4_goes_5 (by decide) ?_
    refine v_goto (pc := 6) X 26 dX4_goes_6 (by decide) ?_
    refine v_put (pc := 26) (k := 19) (i := 1) (ws' := (wM G am mmi mwo mfa mre men mbY mbg mlo mnb mvo mho mro mwe mwi mba mkp mth msg mns 1)) X dX4_goes_26 (fun _ h => List.mem_cons_of_mem _ (List.mem_append_right _ h)) tyX4_ok nmX4 0 rfl rfl (Nat.le_of_ble_eq_true rfl) rfl rfl (Or.inl rfl) rfl (rfl) rfl (Nat.le_of_ble_eq_true rfl) rfl ?_
    refine v_aload_n (pc := 29) X dX4_goes_29 0 rfl ?_
    refine v_get (pc := 30) (k := 19) (i := 1) X dX4_goes_30 (fun _ h => List.mem_cons_of_mem _ (List.mem_append_right _ h)) 0 rfl rfl (Nat.le_of_ble_eq_true rfl) rfl rfl rfl ?_
    refine v_if_ne (pc := 33) X 40 dX4_goes_33 (by decide) (fun c_33 => ?_) (fun c_33 => ?_)
    · refine v_iconst (pc := 40) (v := 0) X dX4_goes_40 (by decide) ?_
      exact v_zret (pc := 41) X hr rfl dX4_goes_41 () (by show (wM G am mmi mwo mfa mre men mbY mbg mlo mnb mvo mho mro mwe mwi mba mkp mth msg mns 1) = (wM G am mmi mwo mfa mre men mbY mbg mlo mnb mvo mho mro mwe mwi mba mkp mth msg mns (f_X4_goes_mtw p0 p1 p2)); simp only [f_X4_goes_mtw, if_pos c_2, if_neg c_33]) (by show 0 = (f_X4_goes_r p0 p1 p2); simp only [f_X4_goes_r, if_pos c_2, if_neg c_33])
    · exact absurd c_33 (by decide)
theorem go1 {x y z : Int32} (h : ¬ f_X4_goes_r x y z = 0) : ¬ x = 0 := fun q => h (by simp only [f_X4_goes_r, if_pos q])
theorem go2 {x y z : Int32} (h : ¬ f_X4_goes_r x y z = 0) : ¬ y = 0 := fun q => h (by
  by_cases c1 : x = 0
  · simp only [f_X4_goes_r, if_pos c1]
  · simp only [f_X4_goes_r, if_neg c1, if_pos q])
theorem go3 {x y z : Int32} (h : ¬ f_X4_goes_r x y z = 0) : ¬ z = 0 := fun q => h (by
  by_cases c1 : x = 0
  · simp only [f_X4_goes_r, if_pos c1]
  · by_cases c2 : y = 0
    · simp only [f_X4_goes_r, if_neg c1, if_pos c2]
    · simp only [f_X4_goes_r, if_neg c1, if_neg c2, if_pos q])
theorem in_of {x y z : Int32} (h : ¬ f_X4_in_r x y z = 0) : y ≤ x ∧ x ≤ z := by
  have e1 : ∀ a b : Int32, ¬ a < b → b ≤ a := fun a b q => by
    rw [Int32.lt_iff_toInt_lt] at q; rw [Int32.le_iff_toInt_le]; omega
  by_cases c1 : x < y
  · exact absurd (by simp only [f_X4_in_r, if_pos c1]) h
  · by_cases c2 : z < x
    · exact absurd (by simp only [f_X4_in_r, if_neg c1, if_pos c2]) h
    · exact ⟨e1 _ _ c1, e1 _ _ c2⟩
theorem vp_io {x y z : Int32} {n : Nat} (h : ¬ f_X4_in_r x y z = 0) (h0 : 0 ≤ y) (h1 : z.toInt < n) : vp_in x n := by
  obtain ⟨a, b⟩ := in_of h
  rw [Int32.le_iff_toInt_le] at a b h0
  exact vp_in_iff.mpr ⟨Int.le_trans h0 a, Int.lt_of_le_of_lt b h1⟩
def f_X4_isPerson_r (p0 : Int32) : Int32 := (f_X4_in_r p0 0 11)
set_option maxHeartbeats 4000000 in
set_option maxRecDepth 100000 in
theorem c_X4_isPerson (l : Launch) (G : va_G) (p0 : Int32) : Ke l yX4_isPerson wsX4_isPerson { frames := 1, cells := 0, slots := 0, locals := 22 } 0 0 G ([] : va_W) [.int p0] (f_X4_isPerson_r p0) ([] : va_W) := by
  refine v_ofi (cc := cX4_isPerson) (nL := 1) (lv := [(0, .int p0)]) (by decide) rfl (Nat.le_of_ble_eq_true rfl) rfl ?_
  intro p e s m args below meth c A X hr
  refine v_iload_n (pc := 0) X dX4_isPerson_0 0 rfl ?_
  refine v_iconst (pc := 1) (v := 0) X dX4_isPerson_1 (by decide) ?_
  refine v_bipush (pc := 2) (v := 11) X dX4_isPerson_2 (by decide) ?_
  refine v_e0S (pc := 4) (rest := []) (n := 3) X (c_X4_in l G p0 0 11) gX4_isPerson_X4_in rfl rfl rfl (by decide +kernel) ⟨Nat.le_of_ble_eq_true rfl, Nat.le_of_ble_eq_true rfl⟩ dX4_isPerson_4 rfl rfl (Nat.le_of_ble_eq_true rfl) ⟨Nat.le_of_ble_eq_true rfl, Nat.le_of_ble_eq_true rfl⟩ ?_
  exact v_zret (pc := 7) X hr (z_in _ _ _) dX4_isPerson_7 () rfl (by show (f_X4_in_r p0 0 11) = (f_X4_isPerson_r p0); simp only [f_X4_isPerson_r])
def f_X4_isGuest_r (p0 : Int32) : Int32 := (f_X4_in_r p0 4 11)
set_option maxHeartbeats 4000000 in
set_option maxRecDepth 100000 in
theorem c_X4_isGuest (l : Launch) (G : va_G) (p0 : Int32) : Ke l yX4_isGuest wsX4_isGuest { frames := 1, cells := 0, slots := 0, locals := 22 } 0 0 G ([] : va_W) [.int p0] (f_X4_isGuest_r p0) ([] : va_W) := by
  refine v_ofi (cc := cX4_isGuest) (nL := 1) (lv := [(0, .int p0)]) (by decide) rfl (Nat.le_of_ble_eq_true rfl) rfl ?_
  intro p e s m args below meth c A X hr
  refine v_iload_n (pc := 0) X dX4_isGuest_0 0 rfl ?_
  refine v_iconst (pc := 1) (v := 4) X dX4_isGuest_1 (by decide) ?_
  refine v_bipush (pc := 2) (v := 11) X dX4_isGuest_2 (by decide) ?_
  refine v_e0S (pc := 4) (rest := []) (n := 3) X (c_X4_in l G p0 4 11) gX4_isGuest_X4_in rfl rfl rfl (by decide +kernel) ⟨Nat.le_of_ble_eq_true rfl, Nat.le_of_ble_eq_true rfl⟩ dX4_isGuest_4 rfl rfl (Nat.le_of_ble_eq_true rfl) ⟨Nat.le_of_ble_eq_true rfl, Nat.le_of_ble_eq_true rfl⟩ ?_
  exact v_zret (pc := 7) X hr (z_in _ _ _) dX4_isGuest_7 () rfl (by show (f_X4_in_r p0 4 11) = (f_X4_isGuest_r p0); simp only [f_X4_isGuest_r])
def f_X4_isKey_r (p0 : Int32) : Int32 := (f_X4_in_r p0 0 3)
set_option maxHeartbeats 4000000 in
set_option maxRecDepth 100000 in
theorem c_X4_isKey (l : Launch) (G : va_G) (p0 : Int32) : Ke l yX4_isKey wsX4_isKey { frames := 1, cells := 0, slots := 0, locals := 22 } 0 0 G ([] : va_W) [.int p0] (f_X4_isKey_r p0) ([] : va_W) := by
  refine v_ofi (cc := cX4_isKey) (nL := 1) (lv := [(0, .int p0)]) (by decide) rfl (Nat.le_of_ble_eq_true rfl) rfl ?_
  intro p e s m args below meth c A X hr
  refine v_iload_n (pc := 0) X dX4_isKey_0 0 rfl ?_
  refine v_iconst (pc := 1) (v := 0) X dX4_isKey_1 (by decide) ?_
  refine v_iconst (pc := 2) (v := 3) X dX4_isKey_2 (by decide) ?_
  refine v_e0S (pc := 3) (rest := []) (n := 3) X (c_X4_in l G p0 0 3) gX4_isKey_X4_in rfl rfl rfl (by decide +kernel) ⟨Nat.le_of_ble_eq_true rfl, Nat.le_of_ble_eq_true rfl⟩ dX4_isKey_3 rfl rfl (Nat.le_of_ble_eq_true rfl) ⟨Nat.le_of_ble_eq_true rfl, Nat.le_of_ble_eq_true rfl⟩ ?_
  exact v_zret (pc := 6) X hr (z_in _ _ _) dX4_isKey_6 () rfl (by show (f_X4_in_r p0 0 3) = (f_X4_isKey_r p0); simp only [f_X4_isKey_r])
theorem mper_in {x : Int32} (h : ¬ f_X4_isPerson_r x = 0) : vp_in x 12 := vp_io h (by decide) (by decide)
theorem mgst_in {x : Int32} (h : ¬ f_X4_isGuest_r x = 0) : vp_in x 12 := vp_io h (by decide) (by decide)
theorem mkey_in {x : Int32} (h : ¬ f_X4_isKey_r x = 0) : vp_in x 4 := vp_io h (by decide) (by decide)
theorem bl_upd {f : Nat → Int32} {n : Nat} (h : ∀ j : Nat, j < n → f j = 0 ∨ f j = 1) (i : Nat) (v : Int32) (hv : v = 0 ∨ v = 1) : ∀ j : Nat, j < n → upd f i v j = 0 ∨ upd f i v j = 1 := fun j hj => by
  by_cases e : j = i
  · subst e; rw [pk_us]; exact hv
  · rw [pk_un e]; exact h j hj
def f_X4_isIn_r (mmi : Int32) (men : Nat → Int32) (p0 : Int32) : Int32 := (if (men (p0).toNatClampNeg) ≤ mmi then 0 else 1)
set_option maxHeartbeats 4000000 in
set_option maxRecDepth 100000 in
theorem c_X4_isIn (l : Launch) (G : va_G) (am : Nat → Nat) (mmi : Int32) (mwo : Nat → Int32) (mfa : Nat → Int32) (mre : Nat → Int32) (men : Nat → Int32) (mbY : Nat → Int32) (mbg : Nat → Int32) (mlo : Nat → Int32) (mnb : Int32) (mvo : Int32) (mho : Nat → Int32) (mro : Nat → Int32) (mwe : Nat → Int32) (mwi : Nat → Int32) (mba : Nat → Int32) (mkp : Nat → Int32) (mth : Nat → Int32) (msg : Nat → Int32) (mns : Int32) (mtw : Int32) (p0 : Int32) (h0 : vp_in p0 12) : Ke l yX4_isIn wsX4_isIn { frames := 0, cells := 0, slots := 0, locals := 0 } 0 0 G (wM G am mmi mwo mfa mre men mbY mbg mlo mnb mvo mho mro mwe mwi mba mkp mth msg mns mtw) [.ref (am 0), .int p0] (f_X4_isIn_r mmi men p0) (wM G am mmi mwo mfa mre men mbY mbg mlo mnb mvo mho mro mwe mwi mba mkp mth msg mns mtw) := by
  refine v_ofi (cc := cX4_isIn) (nL := 2) (lv := [(0, .ref (am 0)), (1, .int p0)]) (by decide) rfl (Nat.le_of_ble_eq_true rfl) rfl ?_
  intro p e s m args below meth c A X hr
  refine v_aload_n (pc := 0) X dX4_isIn_0 0 rfl ?_
  refine v_get (pc := 1) (k := 0) (i := 1) X dX4_isIn_1 (fun _ h => List.mem_cons_of_mem _ (List.mem_append_right _ h)) 0 rfl rfl (Nat.le_of_ble_eq_true rfl) rfl rfl rfl ?_
  refine v_aload_n (pc := 4) X dX4_isIn_4 0 rfl ?_
  refine v_get (pc := 5) (k := 4) (i := 2) X dX4_isIn_5 (fun _ h => List.mem_cons_of_mem _ (List.mem_append_right _ h)) 0 rfl rfl (Nat.le_of_ble_eq_true rfl) rfl rfl rfl ?_
  refine v_iload_n (pc := 8) X dX4_isIn_8 1 rfl ?_
  refine v_iald (pc := 9) X dX4_isIn_9 4 rfl h0 rfl ?_
  refine v_icmp_ge (pc := 10) X 17 dX4_isIn_10 (by decide) (fun c_10 => ?_) (fun c_10 => ?_)
  · refine v_iconst (pc := 17) (v := 0) X dX4_isIn_17 (by decide) ?_
    exact v_zret (pc := 18) X hr rfl dX4_isIn_18 () rfl (by show 0 = (f_X4_isIn_r mmi men p0); simp only [f_X4_isIn_r, if_pos c_10])
  · refine v_iconst (pc := 13) (v := 1) X dX4_isIn_13 (by decide) ?_
    refine v_goto (pc := 14) X 18 dX4_isIn_14 (by decide) ?_
    exact v_zret (pc := 18) X hr rfl dX4_isIn_18 () rfl (by show 1 = (f_X4_isIn_r mmi men p0); simp only [f_X4_isIn_r, if_neg c_10])
def f_X4_word_mwo (mmi : Int32) (mwo : Nat → Int32) (men : Nat → Int32) (p0 : Int32) (p1 : Int32) : Nat → Int32 := (if (f_X4_isPerson_r p0) = 0 then mwo else (if (f_X4_isIn_r mmi men p0) = 0 then mwo else (if (f_X4_goes_r (f_X4_isPerson_r p0) (f_X4_in_r p1 0 999) 1) = 0 then mwo else (upd mwo (p0).toNatClampNeg p1))))
def f_X4_word_mtw (mmi : Int32) (men : Nat → Int32) (p0 : Int32) (p1 : Int32) : Int32 := (if (f_X4_isPerson_r p0) = 0 then (f_X4_goes_mtw (f_X4_isPerson_r p0) (f_X4_in_r p1 0 999) 0) else (if (f_X4_isIn_r mmi men p0) = 0 then (f_X4_goes_mtw (f_X4_isPerson_r p0) (f_X4_in_r p1 0 999) 0) else (f_X4_goes_mtw (f_X4_isPerson_r p0) (f_X4_in_r p1 0 999) 1)))
set_option maxHeartbeats 4000000 in
set_option maxRecDepth 100000 in
theorem c_X4_word (l : Launch) (G : va_G) (am : Nat → Nat) (mmi : Int32) (mwo : Nat → Int32) (mfa : Nat → Int32) (mre : Nat → Int32) (men : Nat → Int32) (mbY : Nat → Int32) (mbg : Nat → Int32) (mlo : Nat → Int32) (mnb : Int32) (mvo : Int32) (mho : Nat → Int32) (mro : Nat → Int32) (mwe : Nat → Int32) (mwi : Nat → Int32) (mba : Nat → Int32) (mkp : Nat → Int32) (mth : Nat → Int32) (msg : Nat → Int32) (mns : Int32) (mtw : Int32) (p0 : Int32) (p1 : Int32) : Ku l yX4_word wsX4_word { frames := 2, cells := 0, slots := 0, locals := 42 } 0 0 G (wM G am mmi mwo mfa mre men mbY mbg mlo mnb mvo mho mro mwe mwi mba mkp mth msg mns mtw) [.ref (am 0), .int p0, .int p1] (wM G am mmi (f_X4_word_mwo mmi mwo men p0 p1) mfa mre men mbY mbg mlo mnb mvo mho mro mwe mwi mba mkp mth msg mns (f_X4_word_mtw mmi men p0 p1)) := by
  refine v_ofv (cc := cX4_word) (nL := 3) (lv := [(0, .ref (am 0)), (1, .int p0), (2, .int p1)]) (by decide) rfl (Nat.le_of_ble_eq_true rfl) rfl ?_
  intro p e s m args below meth c A X hr hin
  refine v_aload_n (pc := 0) X dX4_word_0 0 rfl ?_
  refine v_iload_n (pc := 1) X dX4_word_1 1 rfl ?_
  refine v_e0S (pc := 2) (rest := [.ref (am 0)]) (n := 1) X (c_X4_isPerson l G p0) gX4_word_X4_isPerson rfl rfl rfl (by decide +kernel) ⟨Nat.le_of_ble_eq_true rfl, Nat.le_of_ble_eq_true rfl⟩ dX4_word_2 rfl rfl (Nat.le_of_ble_eq_true rfl) ⟨Nat.le_of_ble_eq_true rfl, Nat.le_of_ble_eq_true rfl⟩ ?_
  refine v_iload_n (pc := 5) X dX4_word_5 2 rfl ?_
  refine v_iconst (pc := 6) (v := 0) X dX4_word_6 (by decide) ?_
  refine v_sipush (pc := 7) (v := 999) X dX4_word_7 (by decide) ?_
  refine v_e0S (pc := 10) (rest := [.int (f_X4_isPerson_r p0), .ref (am 0)]) (n := 3) X (c_X4_in l G p1 0 999) gX4_word_X4_in rfl rfl rfl (by decide +kernel) ⟨Nat.le_of_ble_eq_true rfl, Nat.le_of_ble_eq_true rfl⟩ dX4_word_10 rfl rfl (Nat.le_of_ble_eq_true rfl) ⟨Nat.le_of_ble_eq_true rfl, Nat.le_of_ble_eq_true rfl⟩ ?_
  refine v_iload_n (pc := 13) X dX4_word_13 1 rfl ?_
  refine v_e0S (pc := 14) (rest := [.int (f_X4_in_r p1 0 999), .int (f_X4_isPerson_r p0), .ref (am 0)]) (n := 1) X (c_X4_isPerson l G p0) gX4_word_X4_isPerson rfl rfl rfl (by decide +kernel) ⟨Nat.le_of_ble_eq_true rfl, Nat.le_of_ble_eq_true rfl⟩ dX4_word_14 rfl rfl (Nat.le_of_ble_eq_true rfl) ⟨Nat.le_of_ble_eq_true rfl, Nat.le_of_ble_eq_true rfl⟩ ?_
  refine v_if_eq (pc := 17) X 32 dX4_word_17 (by decide) (fun c_17 => ?_) (fun c_17 => ?_)
  · refine v_iconst (pc := 32) (v := 0) X dX4_word_32 (by decide) ?_
    refine v_eV (pc := 33) (rest := []) (n := 3) (wr := ([] : va_W)) (wn := (wM G am mmi mwo mfa mre men mbY mbg mlo mnb mvo mho mro mwe mwi mba mkp mth msg mns (f_X4_goes_mtw (f_X4_isPerson_r p0) (f_X4_in_r p1 0 999) 0))) (isC := [0, 1, 2, 3, 4, 5, 6, 7, 8, 9, 10, 11, 12, 13, 14, 15]) (isR := []) (isP := [0, 1, 2, 3, 4, 5, 6, 7, 8, 9, 10, 11, 12, 13, 14, 15]) X (c_X4_goes l G am mmi mwo mfa mre men mbY mbg mlo mnb mvo mho mro mwe mwi mba mkp mth msg mns mtw (f_X4_isPerson_r p0) (f_X4_in_r p1 0 999) 0) gX4_word_X4_goes rfl rfl rfl (by decide +kernel) ⟨Nat.le_of_ble_eq_true rfl, Nat.le_of_ble_eq_true rfl⟩ dX4_word_33 rfl rfl (Nat.le_of_ble_eq_true rfl) ⟨Nat.le_of_ble_eq_true rfl, Nat.le_of_ble_eq_true rfl⟩ 0 rfl rfl ⟨rfl, rfl, rfl, rfl, by decide, rfl, rfl⟩ ?_
    refine v_if_eq (pc := 36) X 46 dX4_word_36 (by decide) (fun c_36 => ?_) (fun c_36 => ?_)
    · exact v_vret (pc := 46) X hr dX4_word_46 () (by show (wM G am mmi mwo mfa mre men mbY mbg mlo mnb mvo mho mro mwe mwi mba mkp mth msg mns (f_X4_goes_mtw (f_X4_isPerson_r p0) (f_X4_in_r p1 0 999) 0)) = (wM G am mmi (f_X4_word_mwo mmi mwo men p0 p1) mfa mre men mbY mbg mlo mnb mvo mho mro mwe mwi mba mkp mth msg mns (f_X4_word_mtw mmi men p0 p1)); simp only [f_X4_word_mwo, f_X4_word_mtw, if_pos c_17, if_pos c_36]) True.intro
    · exact (go3 c_36 rfl).elim
  · have pin : vp_in p0 12 := mper_in c_17
    refine v_aload_n (pc := 20) X dX4_word_20 0 rfl ?_
    refine v_iload_n (pc := 21) X dX4_word_21 1 rfl ?_
    refine v_eV (pc := 22) (rest := [.int (f_X4_in_r p1 0 999), .int (f_X4_isPerson_r p0), .ref (am 0)]) (n := 1) (wr := ([] : va_W)) (wn := (wM G am mmi mwo mfa mre men mbY mbg mlo mnb mvo mho mro mwe mwi mba mkp mth msg mns mtw)) (isC := [0, 1, 2, 3, 4, 5, 6, 7, 8, 9, 10, 11, 12, 13, 14, 15]) (isR := []) (isP := [0, 1, 2, 3, 4, 5, 6, 7, 8, 9, 10, 11, 12, 13, 14, 15]) X (c_X4_isIn l G am mmi mwo mfa mre men mbY mbg mlo mnb mvo mho mro mwe mwi mba mkp mth msg mns mtw p0 pin) gX4_word_X4_isIn rfl rfl rfl (by decide +kernel) ⟨Nat.le_of_ble_eq_true rfl, Nat.le_of_ble_eq_true rfl⟩ dX4_word_22 rfl rfl (Nat.le_of_ble_eq_true rfl) ⟨Nat.le_of_ble_eq_true rfl, Nat.le_of_ble_eq_true rfl⟩ 0 rfl rfl ⟨rfl, rfl, rfl, rfl, by decide, rfl, rfl⟩ ?_
    refine v_if_eq (pc := 25) X 32 dX4_word_25 (by decide) (fun c_25 => ?_) (fun c_25 => ?_)
    · refine v_iconst (pc := 32) (v := 0) X dX4_word_32 (by decide) ?_
      refine v_eV (pc := 33) (rest := []) (n := 3) (wr := ([] : va_W)) (wn := (wM G am mmi mwo mfa mre men mbY mbg mlo mnb mvo mho mro mwe mwi mba mkp mth msg mns (f_X4_goes_mtw (f_X4_isPerson_r p0) (f_X4_in_r p1 0 999) 0))) (isC := [0, 1, 2, 3, 4, 5, 6, 7, 8, 9, 10, 11, 12, 13, 14, 15]) (isR := []) (isP := [0, 1, 2, 3, 4, 5, 6, 7, 8, 9, 10, 11, 12, 13, 14, 15]) X (c_X4_goes l G am mmi mwo mfa mre men mbY mbg mlo mnb mvo mho mro mwe mwi mba mkp mth msg mns mtw (f_X4_isPerson_r p0) (f_X4_in_r p1 0 999) 0) gX4_word_X4_goes rfl rfl rfl (by decide +kernel) ⟨Nat.le_of_ble_eq_true rfl, Nat.le_of_ble_eq_true rfl⟩ dX4_word_33 rfl rfl (Nat.le_of_ble_eq_true rfl) ⟨Nat.le_of_ble_eq_true rfl, Nat.le_of_ble_eq_true rfl⟩ 0 rfl rfl ⟨rfl, rfl, rfl, rfl, by decide, rfl, rfl⟩ ?_
      refine v_if_eq (pc := 36) X 46 dX4_word_36 (by decide) (fun c_36 => ?_) (fun c_36 => ?_)
      · exact v_vret (pc := 46) X hr dX4_word_46 () (by show (wM G am mmi mwo mfa mre men mbY mbg mlo mnb mvo mho mro mwe mwi mba mkp mth msg mns (f_X4_goes_mtw (f_X4_isPerson_r p0) (f_X4_in_r p1 0 999) 0)) = (wM G am mmi (f_X4_word_mwo mmi mwo men p0 p1) mfa mre men mbY mbg mlo mnb mvo mho mro mwe mwi mba mkp mth msg mns (f_X4_word_mtw mmi men p0 p1)); simp only [f_X4_word_mwo, f_X4_word_mtw, if_neg c_17, if_pos c_25, if_pos c_36]) True.intro
      · exact (go3 c_36 rfl).elim
    · refine v_iconst (pc := 28) (v := 1) X dX4_word_28 (by decide) ?_
      refine v_goto (pc := 29) X 33 dX4_word_29 (by decide) ?_
      refine v_eV (pc := 33) (rest := []) (n := 3) (wr := ([] : va_W)) (wn := (wM G am mmi mwo mfa mre men mbY mbg mlo mnb mvo mho mro mwe mwi mba mkp mth msg mns (f_X4_goes_mtw (f_X4_isPerson_r p0) (f_X4_in_r p1 0 999) 1))) (isC := [0, 1, 2, 3, 4, 5, 6, 7, 8, 9, 10, 11, 12, 13, 14, 15]) (isR := []) (isP := [0, 1, 2, 3, 4, 5, 6, 7, 8, 9, 10, 11, 12, 13, 14, 15]) X (c_X4_goes l G am mmi mwo mfa mre men mbY mbg mlo mnb mvo mho mro mwe mwi mba mkp mth msg mns mtw (f_X4_isPerson_r p0) (f_X4_in_r p1 0 999) 1) gX4_word_X4_goes rfl rfl rfl (by decide +kernel) ⟨Nat.le_of_ble_eq_true rfl, Nat.le_of_ble_eq_true rfl⟩ dX4_word_33 rfl rfl (Nat.le_of_ble_eq_true rfl) ⟨Nat.le_of_ble_eq_true rfl, Nat.le_of_ble_eq_true rfl⟩ 0 rfl rfl ⟨rfl, rfl, rfl, rfl, by decide, rfl, rfl⟩ ?_
      refine v_if_eq (pc := 36) X 46 dX4_word_36 (by decide) (fun c_36 => ?_) (fun c_36 => ?_)
      · exact v_vret (pc := 46) X hr dX4_word_46 () (by show (wM G am mmi mwo mfa mre men mbY mbg mlo mnb mvo mho mro mwe mwi mba mkp mth msg mns (f_X4_goes_mtw (f_X4_isPerson_r p0) (f_X4_in_r p1 0 999) 1)) = (wM G am mmi (f_X4_word_mwo mmi mwo men p0 p1) mfa mre men mbY mbg mlo mnb mvo mho mro mwe mwi mba mkp mth msg mns (f_X4_word_mtw mmi men p0 p1)); simp only [f_X4_word_mwo, f_X4_word_mtw, if_neg c_17, if_neg c_25, if_pos c_36]) True.intro
      · have pin2 : vp_in p0 12 := mper_in (go1 c_36)
        refine v_aload_n (pc := 39) X dX4_word_39 0 rfl ?_
        refine v_get (pc := 40) (k := 1) (i := 1) X dX4_word_40 (fun _ h => List.mem_cons_of_mem _ (List.mem_append_right _ h)) 0 rfl rfl (Nat.le_of_ble_eq_true rfl) rfl rfl rfl ?_
        refine v_iload_n (pc := 43) X dX4_word_43 1 rfl ?_
        refine v_iload_n (pc := 44) X dX4_word_44 2 rfl ?_
        refine v_iast (pc := 45) (ws' := (wM G am mmi (upd mwo (p0).toNatClampNeg p1) mfa mre men mbY mbg mlo mnb mvo mho mro mwe mwi mba mkp mth msg mns (f_X4_goes_mtw (f_X4_isPerson_r p0) (f_X4_in_r p1 0 999) 1))) X dX4_word_45 1 rfl pin2 rfl ?_
        exact v_vret (pc := 46) X hr dX4_word_46 () (by show (wM G am mmi (upd mwo (p0).toNatClampNeg p1) mfa mre men mbY mbg mlo mnb mvo mho mro mwe mwi mba mkp mth msg mns (f_X4_goes_mtw (f_X4_isPerson_r p0) (f_X4_in_r p1 0 999) 1)) = (wM G am mmi (f_X4_word_mwo mmi mwo men p0 p1) mfa mre men mbY mbg mlo mnb mvo mho mro mwe mwi mba mkp mth msg mns (f_X4_word_mtw mmi men p0 p1)); simp only [f_X4_word_mwo, f_X4_word_mtw, if_neg c_17, if_neg c_25, if_neg c_36]) True.intro
def f_X4_login_r (mmi : Int32) (mwo : Nat → Int32) (mre : Nat → Int32) (p0 : Int32) (p1 : Int32) (p2 : Int32) : Int32 := (if (f_X4_in_r p1 0 999) = 0 then 0 else (if (f_X4_in_r p2 0 9) = 0 then 0 else (if (f_X4_goes_r (f_X4_isPerson_r p0) 1 1) = 0 then 0 else (if (mre (p0).toNatClampNeg) ≤ mmi then (if p1 = (mwo (p0).toNatClampNeg) then (if p2 = (((7 * p0) + (3 * mmi)) - ((7 * p0) + (3 * mmi)) / 10 * 10) then 0 else 2) else 1) else 3))))
def f_X4_login_mfa (mmi : Int32) (mwo : Nat → Int32) (mfa : Nat → Int32) (mre : Nat → Int32) (p0 : Int32) (p1 : Int32) (p2 : Int32) : Nat → Int32 := (if (f_X4_in_r p1 0 999) = 0 then mfa else (if (f_X4_in_r p2 0 9) = 0 then mfa else (if (f_X4_goes_r (f_X4_isPerson_r p0) 1 1) = 0 then mfa else (if (mre (p0).toNatClampNeg) ≤ mmi then (if p1 = (mwo (p0).toNatClampNeg) then (if p2 = (((7 * p0) + (3 * mmi)) - ((7 * p0) + (3 * mmi)) / 10 * 10) then (upd mfa (p0).toNatClampNeg 0) else (if ((upd mfa (p0).toNatClampNeg ((mfa (p0).toNatClampNeg) + 1)) (p0).toNatClampNeg) = 3 then (upd (upd mfa (p0).toNatClampNeg ((mfa (p0).toNatClampNeg) + 1)) (p0).toNatClampNeg 0) else (upd mfa (p0).toNatClampNeg ((mfa (p0).toNatClampNeg) + 1)))) else (if ((upd mfa (p0).toNatClampNeg ((mfa (p0).toNatClampNeg) + 1)) (p0).toNatClampNeg) = 3 then (upd (upd mfa (p0).toNatClampNeg ((mfa (p0).toNatClampNeg) + 1)) (p0).toNatClampNeg 0) else (upd mfa (p0).toNatClampNeg ((mfa (p0).toNatClampNeg) + 1)))) else mfa))))
def f_X4_login_mre (mmi : Int32) (mwo : Nat → Int32) (mfa : Nat → Int32) (mre : Nat → Int32) (p0 : Int32) (p1 : Int32) (p2 : Int32) : Nat → Int32 := (if (f_X4_in_r p1 0 999) = 0 then mre else (if (f_X4_in_r p2 0 9) = 0 then mre else (if (f_X4_goes_r (f_X4_isPerson_r p0) 1 1) = 0 then mre else (if (mre (p0).toNatClampNeg) ≤ mmi then (if p1 = (mwo (p0).toNatClampNeg) then (if p2 = (((7 * p0) + (3 * mmi)) - ((7 * p0) + (3 * mmi)) / 10 * 10) then mre else (if ((upd mfa (p0).toNatClampNeg ((mfa (p0).toNatClampNeg) + 1)) (p0).toNatClampNeg) = 3 then (upd mre (p0).toNatClampNeg (mmi + 10)) else mre)) else (if ((upd mfa (p0).toNatClampNeg ((mfa (p0).toNatClampNeg) + 1)) (p0).toNatClampNeg) = 3 then (upd mre (p0).toNatClampNeg (mmi + 10)) else mre)) else mre))))
def f_X4_login_men (mmi : Int32) (mwo : Nat → Int32) (mre : Nat → Int32) (men : Nat → Int32) (p0 : Int32) (p1 : Int32) (p2 : Int32) : Nat → Int32 := (if (f_X4_in_r p1 0 999) = 0 then men else (if (f_X4_in_r p2 0 9) = 0 then men else (if (f_X4_goes_r (f_X4_isPerson_r p0) 1 1) = 0 then men else (if (mre (p0).toNatClampNeg) ≤ mmi then (if p1 = (mwo (p0).toNatClampNeg) then (if p2 = (((7 * p0) + (3 * mmi)) - ((7 * p0) + (3 * mmi)) / 10 * 10) then (upd men (p0).toNatClampNeg (mmi + 30)) else men) else men) else men))))
def f_X4_login_mtw (p0 : Int32) (p1 : Int32) (p2 : Int32) : Int32 := (if (f_X4_in_r p1 0 999) = 0 then (f_X4_goes_mtw (f_X4_isPerson_r p0) 0 1) else (if (f_X4_in_r p2 0 9) = 0 then (f_X4_goes_mtw (f_X4_isPerson_r p0) 0 1) else (f_X4_goes_mtw (f_X4_isPerson_r p0) 1 1)))
set_option maxHeartbeats 4000000 in
set_option maxRecDepth 100000 in
theorem c_X4_login (l : Launch) (G : va_G) (am : Nat → Nat) (mmi : Int32) (mwo : Nat → Int32) (mfa : Nat → Int32) (mre : Nat → Int32) (men : Nat → Int32) (mbY : Nat → Int32) (mbg : Nat → Int32) (mlo : Nat → Int32) (mnb : Int32) (mvo : Int32) (mho : Nat → Int32) (mro : Nat → Int32) (mwe : Nat → Int32) (mwi : Nat → Int32) (mba : Nat → Int32) (mkp : Nat → Int32) (mth : Nat → Int32) (msg : Nat → Int32) (mns : Int32) (mtw : Int32) (p0 : Int32) (p1 : Int32) (p2 : Int32) : Ke l yX4_login wsX4_login { frames := 2, cells := 0, slots := 0, locals := 42 } 0 0 G (wM G am mmi mwo mfa mre men mbY mbg mlo mnb mvo mho mro mwe mwi mba mkp mth msg mns mtw) [.ref (am 0), .int p0, .int p1, .int p2] (f_X4_login_r mmi mwo mre p0 p1 p2) (wM G am mmi mwo (f_X4_login_mfa mmi mwo mfa mre p0 p1 p2) (f_X4_login_mre mmi mwo mfa mre p0 p1 p2) (f_X4_login_men mmi mwo mre men p0 p1 p2) mbY mbg mlo mnb mvo mho mro mwe mwi mba mkp mth msg mns (f_X4_login_mtw p0 p1 p2)) := by
  refine v_ofi (cc := cX4_login) (nL := 5) (lv := [(0, .ref (am 0)), (1, .int p0), (2, .int p1), (3, .int p2)]) (by decide) rfl (Nat.le_of_ble_eq_true rfl) rfl ?_
  intro p e s m args below meth c A X hr
  refine v_aload_n (pc := 0) X dX4_login_0 0 rfl ?_
  refine v_iload_n (pc := 1) X dX4_login_1 1 rfl ?_
  refine v_e0S (pc := 2) (rest := [.ref (am 0)]) (n := 1) X (c_X4_isPerson l G p0) gX4_login_X4_isPerson rfl rfl rfl (by decide +kernel) ⟨Nat.le_of_ble_eq_true rfl, Nat.le_of_ble_eq_true rfl⟩ dX4_login_2 rfl rfl (Nat.le_of_ble_eq_true rfl) ⟨Nat.le_of_ble_eq_true rfl, Nat.le_of_ble_eq_true rfl⟩ ?_
  refine v_iload_n (pc := 5) X dX4_login_5 2 rfl ?_
  refine v_iconst (pc := 6) (v := 0) X dX4_login_6 (by decide) ?_
  refine v_sipush (pc := 7) (v := 999) X dX4_login_7 (by decide) ?_
  refine v_e0S (pc := 10) (rest := [.int (f_X4_isPerson_r p0), .ref (am 0)]) (n := 3) X (c_X4_in l G p1 0 999) gX4_login_X4_in rfl rfl rfl (by decide +kernel) ⟨Nat.le_of_ble_eq_true rfl, Nat.le_of_ble_eq_true rfl⟩ dX4_login_10 rfl rfl (Nat.le_of_ble_eq_true rfl) ⟨Nat.le_of_ble_eq_true rfl, Nat.le_of_ble_eq_true rfl⟩ ?_
  refine v_if_eq (pc := 13) X 30 dX4_login_13 (by decide) (fun c_13 => ?_) (fun c_13 => ?_)
  · refine v_iconst (pc := 30) (v := 0) X dX4_login_30 (by decide) ?_
    refine v_iconst (pc := 31) (v := 1) X dX4_login_31 (by decide) ?_
    refine v_eV (pc := 32) (rest := []) (n := 3) (wr := ([] : va_W)) (wn := (wM G am mmi mwo mfa mre men mbY mbg mlo mnb mvo mho mro mwe mwi mba mkp mth msg mns (f_X4_goes_mtw (f_X4_isPerson_r p0) 0 1))) (isC := [0, 1, 2, 3, 4, 5, 6, 7, 8, 9, 10, 11, 12, 13, 14, 15]) (isR := []) (isP := [0, 1, 2, 3, 4, 5, 6, 7, 8, 9, 10, 11, 12, 13, 14, 15]) X (c_X4_goes l G am mmi mwo mfa mre men mbY mbg mlo mnb mvo mho mro mwe mwi mba mkp mth msg mns mtw (f_X4_isPerson_r p0) 0 1) gX4_login_X4_goes rfl rfl rfl (by decide +kernel) ⟨Nat.le_of_ble_eq_true rfl, Nat.le_of_ble_eq_true rfl⟩ dX4_login_32 rfl rfl (Nat.le_of_ble_eq_true rfl) ⟨Nat.le_of_ble_eq_true rfl, Nat.le_of_ble_eq_true rfl⟩ 0 rfl rfl ⟨rfl, rfl, rfl, rfl, by decide, rfl, rfl⟩ ?_
    refine v_if_ne (pc := 35) X 40 dX4_login_35 (by decide) (fun c_35 => ?_) (fun c_35 => ?_)
    · exact (go2 c_35 rfl).elim
    · refine v_iconst (pc := 38) (v := 0) X dX4_login_38 (by decide) ?_
      exact v_iret (pc := 39) X hr dX4_login_39 () (by show (wM G am mmi mwo mfa mre men mbY mbg mlo mnb mvo mho mro mwe mwi mba mkp mth msg mns (f_X4_goes_mtw (f_X4_isPerson_r p0) 0 1)) = (wM G am mmi mwo (f_X4_login_mfa mmi mwo mfa mre p0 p1 p2) (f_X4_login_mre mmi mwo mfa mre p0 p1 p2) (f_X4_login_men mmi mwo mre men p0 p1 p2) mbY mbg mlo mnb mvo mho mro mwe mwi mba mkp mth msg mns (f_X4_login_mtw p0 p1 p2)); simp only [f_X4_login_mfa, f_X4_login_mre, f_X4_login_men, f_X4_login_mtw, if_pos c_13, if_pos c_35]) (by show 0 = (f_X4_login_r mmi mwo mre p0 p1 p2); simp only [f_X4_login_r, if_pos c_13, if_pos c_35])
  · refine v_iload_n (pc := 16) X dX4_login_16 3 rfl ?_
    refine v_iconst (pc := 17) (v := 0) X dX4_login_17 (by decide) ?_
    refine v_bipush (pc := 18) (v := 9) X dX4_login_18 (by decide) ?_
    refine v_e0S (pc := 20) (rest := [.int (f_X4_isPerson_r p0), .ref (am 0)]) (n := 3) X (c_X4_in l G p2 0 9) gX4_login_X4_in rfl rfl rfl (by decide +kernel) ⟨Nat.le_of_ble_eq_true rfl, Nat.le_of_ble_eq_true rfl⟩ dX4_login_20 rfl rfl (Nat.le_of_ble_eq_true rfl) ⟨Nat.le_of_ble_eq_true rfl, Nat.le_of_ble_eq_true rfl⟩ ?_
    refine v_if_eq (pc := 23) X 30 dX4_login_23 (by decide) (fun c_23 => ?_) (fun c_23 => ?_)
    · refine v_iconst (pc := 30) (v := 0) X dX4_login_30 (by decide) ?_
      refine v_iconst (pc := 31) (v := 1) X dX4_login_31 (by decide) ?_
      refine v_eV (pc := 32) (rest := []) (n := 3) (wr := ([] : va_W)) (wn := (wM G am mmi mwo mfa mre men mbY mbg mlo mnb mvo mho mro mwe mwi mba mkp mth msg mns (f_X4_goes_mtw (f_X4_isPerson_r p0) 0 1))) (isC := [0, 1, 2, 3, 4, 5, 6, 7, 8, 9, 10, 11, 12, 13, 14, 15]) (isR := []) (isP := [0, 1, 2, 3, 4, 5, 6, 7, 8, 9, 10, 11, 12, 13, 14, 15]) X (c_X4_goes l G am mmi mwo mfa mre men mbY mbg mlo mnb mvo mho mro mwe mwi mba mkp mth msg mns mtw (f_X4_isPerson_r p0) 0 1) gX4_login_X4_goes rfl rfl rfl (by decide +kernel) ⟨Nat.le_of_ble_eq_true rfl, Nat.le_of_ble_eq_true rfl⟩ dX4_login_32 rfl rfl (Nat.le_of_ble_eq_true rfl) ⟨Nat.le_of_ble_eq_true rfl, Nat.le_of_ble_eq_true rfl⟩ 0 rfl rfl ⟨rfl, rfl, rfl, rfl, by decide, rfl, rfl⟩ ?_
      refine v_if_ne (pc := 35) X 40 dX4_login_35 (by decide) (fun c_35 => ?_) (fun c_35 => ?_)
      · exact (go2 c_35 rfl).elim
      · refine v_iconst (pc := 38) (v := 0) X dX4_login_38 (by decide) ?_
        exact v_iret (pc := 39) X hr dX4_login_39 () (by show (wM G am mmi mwo mfa mre men mbY mbg mlo mnb mvo mho mro mwe mwi mba mkp mth msg mns (f_X4_goes_mtw (f_X4_isPerson_r p0) 0 1)) = (wM G am mmi mwo (f_X4_login_mfa mmi mwo mfa mre p0 p1 p2) (f_X4_login_mre mmi mwo mfa mre p0 p1 p2) (f_X4_login_men mmi mwo mre men p0 p1 p2) mbY mbg mlo mnb mvo mho mro mwe mwi mba mkp mth msg mns (f_X4_login_mtw p0 p1 p2)); simp only [f_X4_login_mfa, f_X4_login_mre, f_X4_login_men, f_X4_login_mtw, if_neg c_13, if_pos c_23, if_pos c_35]) (by show 0 = (f_X4_login_r mmi mwo mre p0 p1 p2); simp only [f_X4_login_r, if_neg c_13, if_pos c_23, if_pos c_35])
    · refine v_iconst (pc := 26) (v := 1) X dX4_login_26 (by decide) ?_
      refine v_goto (pc := 27) X 31 dX4_login_27 (by decide) ?_
      refine v_iconst (pc := 31) (v := 1) X dX4_login_31 (by decide) ?_
      refine v_eV (pc := 32) (rest := []) (n := 3) (wr := ([] : va_W)) (wn := (wM G am mmi mwo mfa mre men mbY mbg mlo mnb mvo mho mro mwe mwi mba mkp mth msg mns (f_X4_goes_mtw (f_X4_isPerson_r p0) 1 1))) (isC := [0, 1, 2, 3, 4, 5, 6, 7, 8, 9, 10, 11, 12, 13, 14, 15]) (isR := []) (isP := [0, 1, 2, 3, 4, 5, 6, 7, 8, 9, 10, 11, 12, 13, 14, 15]) X (c_X4_goes l G am mmi mwo mfa mre men mbY mbg mlo mnb mvo mho mro mwe mwi mba mkp mth msg mns mtw (f_X4_isPerson_r p0) 1 1) gX4_login_X4_goes rfl rfl rfl (by decide +kernel) ⟨Nat.le_of_ble_eq_true rfl, Nat.le_of_ble_eq_true rfl⟩ dX4_login_32 rfl rfl (Nat.le_of_ble_eq_true rfl) ⟨Nat.le_of_ble_eq_true rfl, Nat.le_of_ble_eq_true rfl⟩ 0 rfl rfl ⟨rfl, rfl, rfl, rfl, by decide, rfl, rfl⟩ ?_
      refine v_if_ne (pc := 35) X 40 dX4_login_35 (by decide) (fun c_35 => ?_) (fun c_35 => ?_)
      · have pin : vp_in p0 12 := mper_in (go1 c_35)
        refine v_aload_n (pc := 40) X dX4_login_40 0 rfl ?_
        refine v_get (pc := 41) (k := 0) (i := 1) X dX4_login_41 (fun _ h => List.mem_cons_of_mem _ (List.mem_append_right _ h)) 0 rfl rfl (Nat.le_of_ble_eq_true rfl) rfl rfl rfl ?_
        refine v_aload_n (pc := 44) X dX4_login_44 0 rfl ?_
        refine v_get (pc := 45) (k := 3) (i := 2) X dX4_login_45 (fun _ h => List.mem_cons_of_mem _ (List.mem_append_right _ h)) 0 rfl rfl (Nat.le_of_ble_eq_true rfl) rfl rfl rfl ?_
        refine v_iload_n (pc := 48) X dX4_login_48 1 rfl ?_
        refine v_iald (pc := 49) X dX4_login_49 3 rfl pin rfl ?_
        refine v_icmp_ge (pc := 50) X 55 dX4_login_50 (by decide) (fun c_50 => ?_) (fun c_50 => ?_)
        · refine v_iload_n (pc := 55) X dX4_login_55 2 rfl ?_
          refine v_aload_n (pc := 56) X dX4_login_56 0 rfl ?_
          refine v_get (pc := 57) (k := 1) (i := 3) X dX4_login_57 (fun _ h => List.mem_cons_of_mem _ (List.mem_append_right _ h)) 0 rfl rfl (Nat.le_of_ble_eq_true rfl) rfl rfl rfl ?_
          refine v_iload_n (pc := 60) X dX4_login_60 1 rfl ?_
          refine v_iald (pc := 61) X dX4_login_61 1 rfl pin rfl ?_
          refine v_icmp_eq (pc := 62) X 69 dX4_login_62 (by decide) (fun c_62 => ?_) (fun c_62 => ?_)
          · refine v_iload_n (pc := 69) X dX4_login_69 3 rfl ?_
            refine v_bipush (pc := 70) (v := 7) X dX4_login_70 (by decide) ?_
            refine v_iload_n (pc := 72) X dX4_login_72 1 rfl ?_
            refine v_imul (pc := 73) X dX4_login_73 rfl ?_
            refine v_iconst (pc := 74) (v := 3) X dX4_login_74 (by decide) ?_
            refine v_aload_n (pc := 75) X dX4_login_75 0 rfl ?_
            refine v_get (pc := 76) (k := 0) (i := 1) X dX4_login_76 (fun _ h => List.mem_cons_of_mem _ (List.mem_append_right _ h)) 0 rfl rfl (Nat.le_of_ble_eq_true rfl) rfl rfl rfl ?_
            refine v_imul (pc := 79) X dX4_login_79 rfl ?_
            refine v_iadd (pc := 80) X dX4_login_80 rfl ?_
            refine v_bipush (pc := 81) (v := 10) X dX4_login_81 (by decide) ?_
            refine v_irem (pc := 83) X dX4_login_83 (by decide) rfl ?_
            refine v_icmp_eq (pc := 84) X 91 dX4_login_84 (by decide) (fun c_84 => ?_) (fun c_84 => ?_)
            · refine v_iconst (pc := 91) (v := 0) X dX4_login_91 (by decide) ?_
              refine v_istore (pc := 92) (lv' := [(0, .ref (am 0)), (1, .int p0), (2, .int p1), (3, .int p2), (4, .int 0)]) X dX4_login_92 (Nat.le_of_ble_eq_true rfl) [1, 2, 3, 4, 0] rfl ?_
              refine v_iload (pc := 94) X dX4_login_94 4 rfl ?_
              refine v_if_ne (pc := 96) X 122 dX4_login_96 (by decide) (fun c_96 => ?_) (fun c_96 => ?_)
              · exact absurd c_96 (by decide)
              · refine v_aload_n (pc := 99) X dX4_login_99 0 rfl ?_
                refine v_get (pc := 100) (k := 2) (i := 4) X dX4_login_100 (fun _ h => List.mem_cons_of_mem _ (List.mem_append_right _ h)) 0 rfl rfl (Nat.le_of_ble_eq_true rfl) rfl rfl rfl ?_
                refine v_iload_n (pc := 103) X dX4_login_103 1 rfl ?_
                refine v_iconst (pc := 104) (v := 0) X dX4_login_104 (by decide) ?_
                refine v_iast (pc := 105) (ws' := (wM G am mmi mwo (upd mfa (p0).toNatClampNeg 0) mre men mbY mbg mlo mnb mvo mho mro mwe mwi mba mkp mth msg mns (f_X4_goes_mtw (f_X4_isPerson_r p0) 1 1))) X dX4_login_105 2 rfl pin rfl ?_
                refine v_aload_n (pc := 106) X dX4_login_106 0 rfl ?_
                refine v_get (pc := 107) (k := 4) (i := 5) X dX4_login_107 (fun _ h => List.mem_cons_of_mem _ (List.mem_append_right _ h)) 0 rfl rfl (Nat.le_of_ble_eq_true rfl) rfl rfl rfl ?_
                refine v_iload_n (pc := 110) X dX4_login_110 1 rfl ?_
                refine v_aload_n (pc := 111) X dX4_login_111 0 rfl ?_
                refine v_get (pc := 112) (k := 0) (i := 1) X dX4_login_112 (fun _ h => List.mem_cons_of_mem _ (List.mem_append_right _ h)) 0 rfl rfl (Nat.le_of_ble_eq_true rfl) rfl rfl rfl ?_
                refine v_bipush (pc := 115) (v := 30) X dX4_login_115 (by decide) ?_
                refine v_iadd (pc := 117) X dX4_login_117 rfl ?_
                refine v_iast (pc := 118) (ws' := (wM G am mmi mwo (upd mfa (p0).toNatClampNeg 0) mre (upd men (p0).toNatClampNeg (mmi + 30)) mbY mbg mlo mnb mvo mho mro mwe mwi mba mkp mth msg mns (f_X4_goes_mtw (f_X4_isPerson_r p0) 1 1))) X dX4_login_118 4 rfl pin rfl ?_
                refine v_goto (pc := 119) X 162 dX4_login_119 (by decide) ?_
                refine v_iload (pc := 162) X dX4_login_162 4 rfl ?_
                exact v_iret (pc := 164) X hr dX4_login_164 () (by show (wM G am mmi mwo (upd mfa (p0).toNatClampNeg 0) mre (upd men (p0).toNatClampNeg (mmi + 30)) mbY mbg mlo mnb mvo mho mro mwe mwi mba mkp mth msg mns (f_X4_goes_mtw (f_X4_isPerson_r p0) 1 1)) = (wM G am mmi mwo (f_X4_login_mfa mmi mwo mfa mre p0 p1 p2) (f_X4_login_mre mmi mwo mfa mre p0 p1 p2) (f_X4_login_men mmi mwo mre men p0 p1 p2) mbY mbg mlo mnb mvo mho mro mwe mwi mba mkp mth msg mns (f_X4_login_mtw p0 p1 p2)); simp only [f_X4_login_mfa, f_X4_login_mre, f_X4_login_men, f_X4_login_mtw, if_neg c_13, if_neg c_23, if_neg c_35, if_pos c_50, if_pos c_62, if_pos c_84, if_pos c_96]) (by show 0 = (f_X4_login_r mmi mwo mre p0 p1 p2); simp only [f_X4_login_r, if_neg c_13, if_neg c_23, if_neg c_35, if_pos c_50, if_pos c_62, if_pos c_84, if_pos c_96])
            · refine v_iconst (pc := 87) (v := 2) X dX4_login_87 (by decide) ?_
              refine v_goto (pc := 88) X 92 dX4_login_88 (by decide) ?_
              refine v_istore (pc := 92) (lv' := [(0, .ref (am 0)), (1, .int p0), (2, .int p1), (3, .int p2), (4, .int 2)]) X dX4_login_92 (Nat.le_of_ble_eq_true rfl) [1, 2, 3, 4, 0] rfl ?_
              refine v_iload (pc := 94) X dX4_login_94 4 rfl ?_
              refine v_if_ne (pc := 96) X 122 dX4_login_96 (by decide) (fun c_96 => ?_) (fun c_96 => ?_)
              · refine v_aload_n (pc := 122) X dX4_login_122 0 rfl ?_
                refine v_get (pc := 123) (k := 2) (i := 4) X dX4_login_123 (fun _ h => List.mem_cons_of_mem _ (List.mem_append_right _ h)) 0 rfl rfl (Nat.le_of_ble_eq_true rfl) rfl rfl rfl ?_
                refine v_iload_n (pc := 126) X dX4_login_126 1 rfl ?_
                refine v_dup2 (pc := 127) X dX4_login_127 rfl rfl ?_
                refine v_iald (pc := 128) X dX4_login_128 2 rfl pin rfl ?_
                refine v_iconst (pc := 129) (v := 1) X dX4_login_129 (by decide) ?_
                refine v_iadd (pc := 130) X dX4_login_130 rfl ?_
                refine v_iast (pc := 131) (ws' := (wM G am mmi mwo (upd mfa (p0).toNatClampNeg ((mfa (p0).toNatClampNeg) + 1)) mre men mbY mbg mlo mnb mvo mho mro mwe mwi mba mkp mth msg mns (f_X4_goes_mtw (f_X4_isPerson_r p0) 1 1))) X dX4_login_131 2 rfl pin rfl ?_
                refine v_aload_n (pc := 132) X dX4_login_132 0 rfl ?_
                refine v_get (pc := 133) (k := 2) (i := 4) X dX4_login_133 (fun _ h => List.mem_cons_of_mem _ (List.mem_append_right _ h)) 0 rfl rfl (Nat.le_of_ble_eq_true rfl) rfl rfl rfl ?_
                refine v_iload_n (pc := 136) X dX4_login_136 1 rfl ?_
                refine v_iald (pc := 137) X dX4_login_137 2 rfl pin rfl ?_
                refine v_iconst (pc := 138) (v := 3) X dX4_login_138 (by decide) ?_
                refine v_icmp_ne (pc := 139) X 162 dX4_login_139 (by decide) (fun c_139 => ?_) (fun c_139 => ?_)
                · refine v_iload (pc := 162) X dX4_login_162 4 rfl ?_
                  exact v_iret (pc := 164) X hr dX4_login_164 () (by show (wM G am mmi mwo (upd mfa (p0).toNatClampNeg ((mfa (p0).toNatClampNeg) + 1)) mre men mbY mbg mlo mnb mvo mho mro mwe mwi mba mkp mth msg mns (f_X4_goes_mtw (f_X4_isPerson_r p0) 1 1)) = (wM G am mmi mwo (f_X4_login_mfa mmi mwo mfa mre p0 p1 p2) (f_X4_login_mre mmi mwo mfa mre p0 p1 p2) (f_X4_login_men mmi mwo mre men p0 p1 p2) mbY mbg mlo mnb mvo mho mro mwe mwi mba mkp mth msg mns (f_X4_login_mtw p0 p1 p2)); simp only [f_X4_login_mfa, f_X4_login_mre, f_X4_login_men, f_X4_login_mtw, if_neg c_13, if_neg c_23, if_neg c_35, if_pos c_50, if_pos c_62, if_neg c_84, if_neg c_96, if_neg c_139]) (by show 2 = (f_X4_login_r mmi mwo mre p0 p1 p2); simp only [f_X4_login_r, if_neg c_13, if_neg c_23, if_neg c_35, if_pos c_50, if_pos c_62, if_neg c_84, if_neg c_96, if_neg c_139])
                · refine v_aload_n (pc := 142) X dX4_login_142 0 rfl ?_
                  refine v_get (pc := 143) (k := 2) (i := 4) X dX4_login_143 (fun _ h => List.mem_cons_of_mem _ (List.mem_append_right _ h)) 0 rfl rfl (Nat.le_of_ble_eq_true rfl) rfl rfl rfl ?_
                  refine v_iload_n (pc := 146) X dX4_login_146 1 rfl ?_
                  refine v_iconst (pc := 147) (v := 0) X dX4_login_147 (by decide) ?_
                  refine v_iast (pc := 148) (ws' := (wM G am mmi mwo (upd (upd mfa (p0).toNatClampNeg ((mfa (p0).toNatClampNeg) + 1)) (p0).toNatClampNeg 0) mre men mbY mbg mlo mnb mvo mho mro mwe mwi mba mkp mth msg mns (f_X4_goes_mtw (f_X4_isPerson_r p0) 1 1))) X dX4_login_148 2 rfl pin rfl ?_
                  refine v_aload_n (pc := 149) X dX4_login_149 0 rfl ?_
                  refine v_get (pc := 150) (k := 3) (i := 2) X dX4_login_150 (fun _ h => List.mem_cons_of_mem _ (List.mem_append_right _ h)) 0 rfl rfl (Nat.le_of_ble_eq_true rfl) rfl rfl rfl ?_
                  refine v_iload_n (pc := 153) X dX4_login_153 1 rfl ?_
                  refine v_aload_n (pc := 154) X dX4_login_154 0 rfl ?_
                  refine v_get (pc := 155) (k := 0) (i := 1) X dX4_login_155 (fun _ h => List.mem_cons_of_mem _ (List.mem_append_right _ h)) 0 rfl rfl (Nat.le_of_ble_eq_true rfl) rfl rfl rfl ?_
                  refine v_bipush (pc := 158) (v := 10) X dX4_login_158 (by decide) ?_
                  refine v_iadd (pc := 160) X dX4_login_160 rfl ?_
                  refine v_iast (pc := 161) (ws' := (wM G am mmi mwo (upd (upd mfa (p0).toNatClampNeg ((mfa (p0).toNatClampNeg) + 1)) (p0).toNatClampNeg 0) (upd mre (p0).toNatClampNeg (mmi + 10)) men mbY mbg mlo mnb mvo mho mro mwe mwi mba mkp mth msg mns (f_X4_goes_mtw (f_X4_isPerson_r p0) 1 1))) X dX4_login_161 3 rfl pin rfl ?_
                  refine v_iload (pc := 162) X dX4_login_162 4 rfl ?_
                  exact v_iret (pc := 164) X hr dX4_login_164 () (by show (wM G am mmi mwo (upd (upd mfa (p0).toNatClampNeg ((mfa (p0).toNatClampNeg) + 1)) (p0).toNatClampNeg 0) (upd mre (p0).toNatClampNeg (mmi + 10)) men mbY mbg mlo mnb mvo mho mro mwe mwi mba mkp mth msg mns (f_X4_goes_mtw (f_X4_isPerson_r p0) 1 1)) = (wM G am mmi mwo (f_X4_login_mfa mmi mwo mfa mre p0 p1 p2) (f_X4_login_mre mmi mwo mfa mre p0 p1 p2) (f_X4_login_men mmi mwo mre men p0 p1 p2) mbY mbg mlo mnb mvo mho mro mwe mwi mba mkp mth msg mns (f_X4_login_mtw p0 p1 p2)); simp only [f_X4_login_mfa, f_X4_login_mre, f_X4_login_men, f_X4_login_mtw, if_neg c_13, if_neg c_23, if_neg c_35, if_pos c_50, if_pos c_62, if_neg c_84, if_neg c_96, if_pos c_139]) (by show 2 = (f_X4_login_r mmi mwo mre p0 p1 p2); simp only [f_X4_login_r, if_neg c_13, if_neg c_23, if_neg c_35, if_pos c_50, if_pos c_62, if_neg c_84, if_neg c_96, if_pos c_139])
              · exact absurd c_96 (by decide)
          · refine v_iconst (pc := 65) (v := 1) X dX4_login_65 (by decide) ?_
            refine v_goto (pc := 66) X 92 dX4_login_66 (by decide) ?_
            refine v_istore (pc := 92) (lv' := [(0, .ref (am 0)), (1, .int p0), (2, .int p1), (3, .int p2), (4, .int 1)]) X dX4_login_92 (Nat.le_of_ble_eq_true rfl) [1, 2, 3, 4, 0] rfl ?_
            refine v_iload (pc := 94) X dX4_login_94 4 rfl ?_
            refine v_if_ne (pc := 96) X 122 dX4_login_96 (by decide) (fun c_96 => ?_) (fun c_96 => ?_)
            · refine v_aload_n (pc := 122) X dX4_login_122 0 rfl ?_
              refine v_get (pc := 123) (k := 2) (i := 4) X dX4_login_123 (fun _ h => List.mem_cons_of_mem _ (List.mem_append_right _ h)) 0 rfl rfl (Nat.le_of_ble_eq_true rfl) rfl rfl rfl ?_
              refine v_iload_n (pc := 126) X dX4_login_126 1 rfl ?_
              refine v_dup2 (pc := 127) X dX4_login_127 rfl rfl ?_
              refine v_iald (pc := 128) X dX4_login_128 2 rfl pin rfl ?_
              refine v_iconst (pc := 129) (v := 1) X dX4_login_129 (by decide) ?_
              refine v_iadd (pc := 130) X dX4_login_130 rfl ?_
              refine v_iast (pc := 131) (ws' := (wM G am mmi mwo (upd mfa (p0).toNatClampNeg ((mfa (p0).toNatClampNeg) + 1)) mre men mbY mbg mlo mnb mvo mho mro mwe mwi mba mkp mth msg mns (f_X4_goes_mtw (f_X4_isPerson_r p0) 1 1))) X dX4_login_131 2 rfl pin rfl ?_
              refine v_aload_n (pc := 132) X dX4_login_132 0 rfl ?_
              refine v_get (pc := 133) (k := 2) (i := 4) X dX4_login_133 (fun _ h => List.mem_cons_of_mem _ (List.mem_append_right _ h)) 0 rfl rfl (Nat.le_of_ble_eq_true rfl) rfl rfl rfl ?_
              refine v_iload_n (pc := 136) X dX4_login_136 1 rfl ?_
              refine v_iald (pc := 137) X dX4_login_137 2 rfl pin rfl ?_
              refine v_iconst (pc := 138) (v := 3) X dX4_login_138 (by decide) ?_
              refine v_icmp_ne (pc := 139) X 162 dX4_login_139 (by decide) (fun c_139 => ?_) (fun c_139 => ?_)
              · refine v_iload (pc := 162) X dX4_login_162 4 rfl ?_
                exact v_iret (pc := 164) X hr dX4_login_164 () (by show (wM G am mmi mwo (upd mfa (p0).toNatClampNeg ((mfa (p0).toNatClampNeg) + 1)) mre men mbY mbg mlo mnb mvo mho mro mwe mwi mba mkp mth msg mns (f_X4_goes_mtw (f_X4_isPerson_r p0) 1 1)) = (wM G am mmi mwo (f_X4_login_mfa mmi mwo mfa mre p0 p1 p2) (f_X4_login_mre mmi mwo mfa mre p0 p1 p2) (f_X4_login_men mmi mwo mre men p0 p1 p2) mbY mbg mlo mnb mvo mho mro mwe mwi mba mkp mth msg mns (f_X4_login_mtw p0 p1 p2)); simp only [f_X4_login_mfa, f_X4_login_mre, f_X4_login_men, f_X4_login_mtw, if_neg c_13, if_neg c_23, if_neg c_35, if_pos c_50, if_neg c_62, if_neg c_96, if_neg c_139]) (by show 1 = (f_X4_login_r mmi mwo mre p0 p1 p2); simp only [f_X4_login_r, if_neg c_13, if_neg c_23, if_neg c_35, if_pos c_50, if_neg c_62, if_neg c_96, if_neg c_139])
              · refine v_aload_n (pc := 142) X dX4_login_142 0 rfl ?_
                refine v_get (pc := 143) (k := 2) (i := 4) X dX4_login_143 (fun _ h => List.mem_cons_of_mem _ (List.mem_append_right _ h)) 0 rfl rfl (Nat.le_of_ble_eq_true rfl) rfl rfl rfl ?_
                refine v_iload_n (pc := 146) X dX4_login_146 1 rfl ?_
                refine v_iconst (pc := 147) (v := 0) X dX4_login_147 (by decide) ?_
                refine v_iast (pc := 148) (ws' := (wM G am mmi mwo (upd (upd mfa (p0).toNatClampNeg ((mfa (p0).toNatClampNeg) + 1)) (p0).toNatClampNeg 0) mre men mbY mbg mlo mnb mvo mho mro mwe mwi mba mkp mth msg mns (f_X4_goes_mtw (f_X4_isPerson_r p0) 1 1))) X dX4_login_148 2 rfl pin rfl ?_
                refine v_aload_n (pc := 149) X dX4_login_149 0 rfl ?_
                refine v_get (pc := 150) (k := 3) (i := 2) X dX4_login_150 (fun _ h => List.mem_cons_of_mem _ (List.mem_append_right _ h)) 0 rfl rfl (Nat.le_of_ble_eq_true rfl) rfl rfl rfl ?_
                refine v_iload_n (pc := 153) X dX4_login_153 1 rfl ?_
                refine v_aload_n (pc := 154) X dX4_login_154 0 rfl ?_
                refine v_get (pc := 155) (k := 0) (i := 1) X dX4_login_155 (fun _ h => List.mem_cons_of_mem _ (List.mem_append_right _ h)) 0 rfl rfl (Nat.le_of_ble_eq_true rfl) rfl rfl rfl ?_
                refine v_bipush (pc := 158) (v := 10) X dX4_login_158 (by decide) ?_
                refine v_iadd (pc := 160) X dX4_login_160 rfl ?_
                refine v_iast (pc := 161) (ws' := (wM G am mmi mwo (upd (upd mfa (p0).toNatClampNeg ((mfa (p0).toNatClampNeg) + 1)) (p0).toNatClampNeg 0) (upd mre (p0).toNatClampNeg (mmi + 10)) men mbY mbg mlo mnb mvo mho mro mwe mwi mba mkp mth msg mns (f_X4_goes_mtw (f_X4_isPerson_r p0) 1 1))) X dX4_login_161 3 rfl pin rfl ?_
                refine v_iload (pc := 162) X dX4_login_162 4 rfl ?_
                exact v_iret (pc := 164) X hr dX4_login_164 () (by show (wM G am mmi mwo (upd (upd mfa (p0).toNatClampNeg ((mfa (p0).toNatClampNeg) + 1)) (p0).toNatClampNeg 0) (upd mre (p0).toNatClampNeg (mmi + 10)) men mbY mbg mlo mnb mvo mho mro mwe mwi mba mkp mth msg mns (f_X4_goes_mtw (f_X4_isPerson_r p0) 1 1)) = (wM G am mmi mwo (f_X4_login_mfa mmi mwo mfa mre p0 p1 p2) (f_X4_login_mre mmi mwo mfa mre p0 p1 p2) (f_X4_login_men mmi mwo mre men p0 p1 p2) mbY mbg mlo mnb mvo mho mro mwe mwi mba mkp mth msg mns (f_X4_login_mtw p0 p1 p2)); simp only [f_X4_login_mfa, f_X4_login_mre, f_X4_login_men, f_X4_login_mtw, if_neg c_13, if_neg c_23, if_neg c_35, if_pos c_50, if_neg c_62, if_neg c_96, if_pos c_139]) (by show 1 = (f_X4_login_r mmi mwo mre p0 p1 p2); simp only [f_X4_login_r, if_neg c_13, if_neg c_23, if_neg c_35, if_pos c_50, if_neg c_62, if_neg c_96, if_pos c_139])
            · exact absurd c_96 (by decide)
        · refine v_iconst (pc := 53) (v := 3) X dX4_login_53 (by decide) ?_
          exact v_iret (pc := 54) X hr dX4_login_54 () (by show (wM G am mmi mwo mfa mre men mbY mbg mlo mnb mvo mho mro mwe mwi mba mkp mth msg mns (f_X4_goes_mtw (f_X4_isPerson_r p0) 1 1)) = (wM G am mmi mwo (f_X4_login_mfa mmi mwo mfa mre p0 p1 p2) (f_X4_login_mre mmi mwo mfa mre p0 p1 p2) (f_X4_login_men mmi mwo mre men p0 p1 p2) mbY mbg mlo mnb mvo mho mro mwe mwi mba mkp mth msg mns (f_X4_login_mtw p0 p1 p2)); simp only [f_X4_login_mfa, f_X4_login_mre, f_X4_login_men, f_X4_login_mtw, if_neg c_13, if_neg c_23, if_neg c_35, if_neg c_50]) (by show 3 = (f_X4_login_r mmi mwo mre p0 p1 p2); simp only [f_X4_login_r, if_neg c_13, if_neg c_23, if_neg c_35, if_neg c_50])
      · refine v_iconst (pc := 38) (v := 0) X dX4_login_38 (by decide) ?_
        exact v_iret (pc := 39) X hr dX4_login_39 () (by show (wM G am mmi mwo mfa mre men mbY mbg mlo mnb mvo mho mro mwe mwi mba mkp mth msg mns (f_X4_goes_mtw (f_X4_isPerson_r p0) 1 1)) = (wM G am mmi mwo (f_X4_login_mfa mmi mwo mfa mre p0 p1 p2) (f_X4_login_mre mmi mwo mfa mre p0 p1 p2) (f_X4_login_men mmi mwo mre men p0 p1 p2) mbY mbg mlo mnb mvo mho mro mwe mwi mba mkp mth msg mns (f_X4_login_mtw p0 p1 p2)); simp only [f_X4_login_mfa, f_X4_login_mre, f_X4_login_men, f_X4_login_mtw, if_neg c_13, if_neg c_23, if_pos c_35]) (by show 0 = (f_X4_login_r mmi mwo mre p0 p1 p2); simp only [f_X4_login_r, if_neg c_13, if_neg c_23, if_pos c_35])
def f_X4_pass_r (mmi : Int32) (p0 : Int32) : Int32 := (if (f_X4_goes_r (f_X4_in_r p0 1 500) 1 1) = 0 then 0 else (mmi + p0))
def f_X4_pass_mmi (mmi : Int32) (p0 : Int32) : Int32 := (if (f_X4_goes_r (f_X4_in_r p0 1 500) 1 1) = 0 then mmi else (mmi + p0))
def f_X4_pass_mtw (p0 : Int32) : Int32 := (f_X4_goes_mtw (f_X4_in_r p0 1 500) 1 1)
set_option maxHeartbeats 4000000 in
set_option maxRecDepth 100000 in
theorem c_X4_pass (l : Launch) (G : va_G) (am : Nat → Nat) (mmi : Int32) (mwo : Nat → Int32) (mfa : Nat → Int32) (mre : Nat → Int32) (men : Nat → Int32) (mbY : Nat → Int32) (mbg : Nat → Int32) (mlo : Nat → Int32) (mnb : Int32) (mvo : Int32) (mho : Nat → Int32) (mro : Nat → Int32) (mwe : Nat → Int32) (mwi : Nat → Int32) (mba : Nat → Int32) (mkp : Nat → Int32) (mth : Nat → Int32) (msg : Nat → Int32) (mns : Int32) (mtw : Int32) (p0 : Int32) : Ke l yX4_pass wsX4_pass { frames := 1, cells := 0, slots := 0, locals := 23 } 0 0 G (wM G am mmi mwo mfa mre men mbY mbg mlo mnb mvo mho mro mwe mwi mba mkp mth msg mns mtw) [.ref (am 0), .int p0] (f_X4_pass_r mmi p0) (wM G am (f_X4_pass_mmi mmi p0) mwo mfa mre men mbY mbg mlo mnb mvo mho mro mwe mwi mba mkp mth msg mns (f_X4_pass_mtw p0)) := by
  refine v_ofi (cc := cX4_pass) (nL := 2) (lv := [(0, .ref (am 0)), (1, .int p0)]) (by decide) rfl (Nat.le_of_ble_eq_true rfl) rfl ?_
  intro p e s m args below meth c A X hr
  refine v_aload_n (pc := 0) X dX4_pass_0 0 rfl ?_
  refine v_iload_n (pc := 1) X dX4_pass_1 1 rfl ?_
  refine v_iconst (pc := 2) (v := 1) X dX4_pass_2 (by decide) ?_
  refine v_sipush (pc := 3) (v := 500) X dX4_pass_3 (by decide) ?_
  refine v_e0S (pc := 6) (rest := [.ref (am 0)]) (n := 3) X (c_X4_in l G p0 1 500) gX4_pass_X4_in rfl rfl rfl (by decide +kernel) ⟨Nat.le_of_ble_eq_true rfl, Nat.le_of_ble_eq_true rfl⟩ dX4_pass_6 rfl rfl (Nat.le_of_ble_eq_true rfl) ⟨Nat.le_of_ble_eq_true rfl, Nat.le_of_ble_eq_true rfl⟩ ?_
  refine v_iconst (pc := 9) (v := 1) X dX4_pass_9 (by decide) ?_
  refine v_iconst (pc := 10) (v := 1) X dX4_pass_10 (by decide) ?_
  refine v_eV (pc := 11) (rest := []) (n := 3) (wr := ([] : va_W)) (wn := (wM G am mmi mwo mfa mre men mbY mbg mlo mnb mvo mho mro mwe mwi mba mkp mth msg mns (f_X4_goes_mtw (f_X4_in_r p0 1 500) 1 1))) (isC := [0, 1, 2, 3, 4, 5, 6, 7, 8, 9, 10, 11, 12, 13, 14, 15]) (isR := []) (isP := [0, 1, 2, 3, 4, 5, 6, 7, 8, 9, 10, 11, 12, 13, 14, 15]) X (c_X4_goes l G am mmi mwo mfa mre men mbY mbg mlo mnb mvo mho mro mwe mwi mba mkp mth msg mns mtw (f_X4_in_r p0 1 500) 1 1) gX4_pass_X4_goes rfl rfl rfl (by decide +kernel) ⟨Nat.le_of_ble_eq_true rfl, Nat.le_of_ble_eq_true rfl⟩ dX4_pass_11 rfl rfl (Nat.le_of_ble_eq_true rfl) ⟨Nat.le_of_ble_eq_true rfl, Nat.le_of_ble_eq_true rfl⟩ 0 rfl rfl ⟨rfl, rfl, rfl, rfl, by decide, rfl, rfl⟩ ?_
  refine v_if_ne (pc := 14) X 19 dX4_pass_14 (by decide) (fun c_14 => ?_) (fun c_14 => ?_)
  · refine v_aload_n (pc := 19) X dX4_pass_19 0 rfl ?_
    refine v_dup (pc := 20) X dX4_pass_20 rfl ?_
    refine v_get (pc := 21) (k := 0) (i := 1) X dX4_pass_21 (fun _ h => List.mem_cons_of_mem _ (List.mem_append_right _ h)) 0 rfl rfl (Nat.le_of_ble_eq_true rfl) rfl rfl rfl ?_
    refine v_iload_n (pc := 24) X dX4_pass_24 1 rfl ?_
    refine v_iadd (pc := 25) X dX4_pass_25 rfl ?_
    refine v_put (pc := 26) (k := 0) (i := 1) (ws' := (wM G am (mmi + p0) mwo mfa mre men mbY mbg mlo mnb mvo mho mro mwe mwi mba mkp mth msg mns (f_X4_goes_mtw (f_X4_in_r p0 1 500) 1 1))) X dX4_pass_26 (fun _ h => List.mem_cons_of_mem _ (List.mem_append_right _ h)) tyX4_ok nmX4 0 rfl rfl (Nat.le_of_ble_eq_true rfl) rfl rfl (Or.inl rfl) rfl (rfl) rfl (Nat.le_of_ble_eq_true rfl) rfl ?_
    refine v_aload_n (pc := 29) X dX4_pass_29 0 rfl ?_
    refine v_get (pc := 30) (k := 0) (i := 1) X dX4_pass_30 (fun _ h => List.mem_cons_of_mem _ (List.mem_append_right _ h)) 0 rfl rfl (Nat.le_of_ble_eq_true rfl) rfl rfl rfl ?_
    exact v_iret (pc := 33) X hr dX4_pass_33 () (by show (wM G am (mmi + p0) mwo mfa mre men mbY mbg mlo mnb mvo mho mro mwe mwi mba mkp mth msg mns (f_X4_goes_mtw (f_X4_in_r p0 1 500) 1 1)) = (wM G am (f_X4_pass_mmi mmi p0) mwo mfa mre men mbY mbg mlo mnb mvo mho mro mwe mwi mba mkp mth msg mns (f_X4_pass_mtw p0)); simp only [f_X4_pass_mmi, f_X4_pass_mtw, if_neg c_14]) (by show (mmi + p0) = (f_X4_pass_r mmi p0); simp only [f_X4_pass_r, if_neg c_14])
  · refine v_iconst (pc := 17) (v := 0) X dX4_pass_17 (by decide) ?_
    exact v_iret (pc := 18) X hr dX4_pass_18 () (by show (wM G am mmi mwo mfa mre men mbY mbg mlo mnb mvo mho mro mwe mwi mba mkp mth msg mns (f_X4_goes_mtw (f_X4_in_r p0 1 500) 1 1)) = (wM G am (f_X4_pass_mmi mmi p0) mwo mfa mre men mbY mbg mlo mnb mvo mho mro mwe mwi mba mkp mth msg mns (f_X4_pass_mtw p0)); simp only [f_X4_pass_mmi, f_X4_pass_mtw, if_pos c_14]) (by show 0 = (f_X4_pass_r mmi p0); simp only [f_X4_pass_r, if_pos c_14])
def FX4_chainOf_4_x2 : Nat → Int32 → Int32 → (Nat → Int32) → (Nat → Int32) → Int32
  | 0, _, _, _, _ => 0
  | n + 1, x2, x3, mbY, mho => (if x2 < 4 then x2 else (if (mbY (x2).toNatClampNeg) = (-1) then x2 else (if 12 ≤ x3 then x2 else (FX4_chainOf_4_x2 n (mho ((mbY (x2).toNatClampNeg)).toNatClampNeg) (x3 + 1) mbY mho))))
def FX4_chainOf_4_x3 : Nat → Int32 → Int32 → (Nat → Int32) → (Nat → Int32) → Int32
  | 0, _, _, _, _ => 0
  | n + 1, x2, x3, mbY, mho => (if x2 < 4 then x3 else (if (mbY (x2).toNatClampNeg) = (-1) then x3 else (if 12 ≤ x3 then x3 else (FX4_chainOf_4_x3 n (mho ((mbY (x2).toNatClampNeg)).toNatClampNeg) (x3 + 1) mbY mho))))
def f_X4_chainOf_r (mbY : Nat → Int32) (mho : Nat → Int32) (p0 : Int32) : Int32 := (if 4 ≤ (FX4_chainOf_4_x2 13 p0 0 mbY mho) then (-1) else (FX4_chainOf_4_x3 13 p0 0 mbY mho))
set_option maxHeartbeats 4000000 in
set_option maxRecDepth 100000 in
theorem c_X4_chainOf (l : Launch) (G : va_G) (am : Nat → Nat) (mmi : Int32) (mwo : Nat → Int32) (mfa : Nat → Int32) (mre : Nat → Int32) (men : Nat → Int32) (mbY : Nat → Int32) (mbg : Nat → Int32) (mlo : Nat → Int32) (mnb : Int32) (mvo : Int32) (mho : Nat → Int32) (mro : Nat → Int32) (mwe : Nat → Int32) (mwi : Nat → Int32) (mba : Nat → Int32) (mkp : Nat → Int32) (mth : Nat → Int32) (msg : Nat → Int32) (mns : Int32) (mtw : Int32) (p0 : Int32) (h0 : vp_in p0 12) (hby : ∀ j : Nat, j < 12 → mbY j = -1 ∨ vp_in (mbY j) 100) (hho : ∀ j : Nat, j < 100 → vp_in (mho j) 12) : Ke l yX4_chainOf wsX4_chainOf { frames := 0, cells := 0, slots := 0, locals := 0 } 0 0 G (wM G am mmi mwo mfa mre men mbY mbg mlo mnb mvo mho mro mwe mwi mba mkp mth msg mns mtw) [.ref (am 0), .int p0] (f_X4_chainOf_r mbY mho p0) (wM G am mmi mwo mfa mre men mbY mbg mlo mnb mvo mho mro mwe mwi mba mkp mth msg mns mtw) := by
  refine v_ofi (cc := cX4_chainOf) (nL := 4) (lv := [(0, .ref (am 0)), (1, .int p0)]) (by decide) rfl (Nat.le_of_ble_eq_true rfl) rfl ?_
  intro p e s m args below meth c A X hr
  refine v_iload_n (pc := 0) X dX4_chainOf_0 1 rfl ?_
  refine v_istore_n (pc := 1) (lv' := [(0, .ref (am 0)), (1, .int p0), (2, .int p0)]) X dX4_chainOf_1 rfl (Nat.le_of_ble_eq_true rfl) [1, 2, 0] rfl ?_
  refine v_iconst (pc := 2) (v := 0) X dX4_chainOf_2 (by decide) ?_
  refine v_istore_n (pc := 3) (lv' := [(0, .ref (am 0)), (1, .int p0), (2, .int p0), (3, .int 0)]) X dX4_chainOf_3 rfl (Nat.le_of_ble_eq_true rfl) [1, 2, 3, 0] rfl ?_
  have LP4 : ∀ (n : Nat) (x2 : Int32) (x3 : Int32), ((x3 = nI (12 + 1 - n) ∧ 1 ≤ n ∧ n ≤ 12 + 1) ∧ (vp_in x2 12)) → V p l e (headSpec wsX4_chainOf { frames := 0, cells := 0, slots := 0, locals := 0 }).room s m args below meth c 4 G A 0 0 (QI below args s G A 0 0 (S := Unit) (fun x _ => x = (f_X4_chainOf_r mbY mho p0)) (fun _ => (wM G am mmi mwo mfa mre men mbY mbg mlo mnb mvo mho mro mwe mwi mba mkp mth msg mns mtw))) (wM G am mmi mwo mfa mre men mbY mbg mlo mnb mvo mho mro mwe mwi mba mkp mth msg mns mtw) [(0, .ref (am 0)), (1, .int p0), (2, .int (FX4_chainOf_4_x2 n x2 x3 mbY mho)), (3, .int (FX4_chainOf_4_x3 n x2 x3 mbY mho))] 43 [] → V p l e (headSpec wsX4_chainOf { frames := 0, cells := 0, slots := 0, locals := 0 }).room s m args below meth c 4 G A 0 0 (QI below args s G A 0 0 (S := Unit) (fun x _ => x = (f_X4_chainOf_r mbY mho p0)) (fun _ => (wM G am mmi mwo mfa mre men mbY mbg mlo mnb mvo mho mro mwe mwi mba mkp mth msg mns mtw))) (wM G am mmi mwo mfa mre men mbY mbg mlo mnb mvo mho mro mwe mwi mba mkp mth msg mns mtw) [(0, .ref (am 0)), (1, .int p0), (2, .int x2), (3, .int x3)] 4 [] := by
    intro n
    induction n with
    | zero => intro x2 x3 hI hK; exact False.elim (by omega)
    | succ n ih =>
      intro x2 x3 hI hK
      refine v_iload_n (pc := 4) X dX4_chainOf_4 2 rfl ?_
      refine v_iconst (pc := 5) (v := 4) X dX4_chainOf_5 (by decide) ?_
      refine v_icmp_lt (pc := 6) X 43 dX4_chainOf_6 (by decide) (fun c_6 => ?_) (fun c_6 => ?_)
      · simpa only [FX4_chainOf_4_x2, FX4_chainOf_4_x3, if_pos c_6] using hK
      · have hx2 : vp_in x2 12 := hI.2
        refine v_aload_n (pc := 9) X dX4_chainOf_9 0 rfl ?_
        refine v_get (pc := 10) (k := 5) (i := 1) X dX4_chainOf_10 (fun _ h => List.mem_cons_of_mem _ (List.mem_append_right _ h)) 0 rfl rfl (Nat.le_of_ble_eq_true rfl) rfl rfl rfl ?_
        refine v_iload_n (pc := 13) X dX4_chainOf_13 2 rfl ?_
        refine v_iald (pc := 14) X dX4_chainOf_14 5 rfl hx2 rfl ?_
        refine v_iconst (pc := 15) (v := (-1)) X dX4_chainOf_15 (by decide) ?_
        refine v_icmp_eq (pc := 16) X 43 dX4_chainOf_16 (by decide) (fun c_16 => ?_) (fun c_16 => ?_)
        · simpa only [FX4_chainOf_4_x2, FX4_chainOf_4_x3, if_neg c_6, if_pos c_16] using hK
        · have hb : vp_in (mbY (x2).toNatClampNeg) 100 := (hby _ (vp_lt hx2)).resolve_left c_16
          refine v_iload_n (pc := 19) X dX4_chainOf_19 3 rfl ?_
          refine v_bipush (pc := 20) (v := 12) X dX4_chainOf_20 (by decide) ?_
          refine v_icmp_ge (pc := 22) X 43 dX4_chainOf_22 (by decide) (fun c_22 => ?_) (fun c_22 => ?_)
          · simpa only [FX4_chainOf_4_x2, FX4_chainOf_4_x3, if_neg c_6, if_neg c_16, if_pos c_22] using hK
          · refine v_aload_n (pc := 25) X dX4_chainOf_25 0 rfl ?_
            refine v_get (pc := 26) (k := 10) (i := 2) X dX4_chainOf_26 (fun _ h => List.mem_cons_of_mem _ (List.mem_append_right _ h)) 0 rfl rfl (Nat.le_of_ble_eq_true rfl) rfl rfl rfl ?_
            refine v_aload_n (pc := 29) X dX4_chainOf_29 0 rfl ?_
            refine v_get (pc := 30) (k := 5) (i := 1) X dX4_chainOf_30 (fun _ h => List.mem_cons_of_mem _ (List.mem_append_right _ h)) 0 rfl rfl (Nat.le_of_ble_eq_true rfl) rfl rfl rfl ?_
            refine v_iload_n (pc := 33) X dX4_chainOf_33 2 rfl ?_
            refine v_iald (pc := 34) X dX4_chainOf_34 5 rfl hx2 rfl ?_
            refine v_iald (pc := 35) X dX4_chainOf_35 8 rfl hb rfl ?_
            refine v_istore_n (pc := 36) (lv' := [(0, .ref (am 0)), (1, .int p0), (2, .int (mho ((mbY (x2).toNatClampNeg)).toNatClampNeg)), (3, .int x3)]) X dX4_chainOf_36 rfl (Nat.le_of_ble_eq_true rfl) [1, 2, 0, 3] rfl ?_
            refine v_iinc (pc := 37) (k := 3) (v := (x3 + 1)) (lv' := [(0, .ref (am 0)), (1, .int p0), (2, .int (mho ((mbY (x2).toNatClampNeg)).toNatClampNeg)), (3, .int (x3 + 1))]) X dX4_chainOf_37 rfl rfl (Nat.le_of_ble_eq_true rfl) [1, 2, 3, 0] rfl ?_
            refine v_goto (pc := 40) X 4 dX4_chainOf_40 (by decide) ?_
            exact ih (mho ((mbY (x2).toNatClampNeg)).toNatClampNeg) (x3 + 1) (⟨(cnt_in (by decide) (by decide) hI.1 c_22).2, hho _ (vp_lt hb)⟩) (by simpa only [FX4_chainOf_4_x2, FX4_chainOf_4_x3, if_neg c_6, if_neg c_16, if_neg c_22] using hK)
  refine LP4 13 p0 0 (⟨⟨by decide, by decide, by decide⟩, h0⟩) ?_
  refine v_iload_n (pc := 43) X dX4_chainOf_43 2 rfl ?_
  refine v_iconst (pc := 44) (v := 4) X dX4_chainOf_44 (by decide) ?_
  refine v_icmp_ge (pc := 45) X 52 dX4_chainOf_45 (by decide) (fun c_45 => ?_) (fun c_45 => ?_)
  · refine v_iconst (pc := 52) (v := (-1)) X dX4_chainOf_52 (by decide) ?_
    exact v_iret (pc := 53) X hr dX4_chainOf_53 () rfl (by show (-1) = (f_X4_chainOf_r mbY mho p0); simp only [f_X4_chainOf_r, if_pos c_45])
  · refine v_iload_n (pc := 48) X dX4_chainOf_48 3 rfl ?_
    refine v_goto (pc := 49) X 53 dX4_chainOf_49 (by decide) ?_
    exact v_iret (pc := 53) X hr dX4_chainOf_53 () rfl (by show (FX4_chainOf_4_x3 13 p0 0 mbY mho) = (f_X4_chainOf_r mbY mho p0); simp only [f_X4_chainOf_r, if_neg c_45])
def f_X4_isTrusted_r (mbY : Nat → Int32) (mho : Nat → Int32) (p0 : Int32) : Int32 := (if (f_X4_chainOf_r mbY mho p0) = (-1) then 0 else 1)
set_option maxHeartbeats 4000000 in
set_option maxRecDepth 100000 in
theorem c_X4_isTrusted (l : Launch) (G : va_G) (am : Nat → Nat) (mmi : Int32) (mwo : Nat → Int32) (mfa : Nat → Int32) (mre : Nat → Int32) (men : Nat → Int32) (mbY : Nat → Int32) (mbg : Nat → Int32) (mlo : Nat → Int32) (mnb : Int32) (mvo : Int32) (mho : Nat → Int32) (mro : Nat → Int32) (mwe : Nat → Int32) (mwi : Nat → Int32) (mba : Nat → Int32) (mkp : Nat → Int32) (mth : Nat → Int32) (msg : Nat → Int32) (mns : Int32) (mtw : Int32) (p0 : Int32) (h0 : vp_in p0 12) (hby : ∀ j : Nat, j < 12 → mbY j = -1 ∨ vp_in (mbY j) 100) (hho : ∀ j : Nat, j < 100 → vp_in (mho j) 12) : Ke l yX4_isTrusted wsX4_isTrusted { frames := 1, cells := 0, slots := 0, locals := 23 } 0 0 G (wM G am mmi mwo mfa mre men mbY mbg mlo mnb mvo mho mro mwe mwi mba mkp mth msg mns mtw) [.ref (am 0), .int p0] (f_X4_isTrusted_r mbY mho p0) (wM G am mmi mwo mfa mre men mbY mbg mlo mnb mvo mho mro mwe mwi mba mkp mth msg mns mtw) := by
  refine v_ofi (cc := cX4_isTrusted) (nL := 2) (lv := [(0, .ref (am 0)), (1, .int p0)]) (by decide) rfl (Nat.le_of_ble_eq_true rfl) rfl ?_
  intro p e s m args below meth c A X hr
  refine v_aload_n (pc := 0) X dX4_isTrusted_0 0 rfl ?_
  refine v_iload_n (pc := 1) X dX4_isTrusted_1 1 rfl ?_
  refine v_eV (pc := 2) (rest := []) (n := 1) (wr := ([] : va_W)) (wn := (wM G am mmi mwo mfa mre men mbY mbg mlo mnb mvo mho mro mwe mwi mba mkp mth msg mns mtw)) (isC := [0, 1, 2, 3, 4, 5, 6, 7, 8, 9, 10, 11, 12, 13, 14, 15]) (isR := []) (isP := [0, 1, 2, 3, 4, 5, 6, 7, 8, 9, 10, 11, 12, 13, 14, 15]) X (c_X4_chainOf l G am mmi mwo mfa mre men mbY mbg mlo mnb mvo mho mro mwe mwi mba mkp mth msg mns mtw p0 h0 hby hho) gX4_isTrusted_X4_chainOf rfl rfl rfl (by decide +kernel) ⟨Nat.le_of_ble_eq_true rfl, Nat.le_of_ble_eq_true rfl⟩ dX4_isTrusted_2 rfl rfl (Nat.le_of_ble_eq_true rfl) ⟨Nat.le_of_ble_eq_true rfl, Nat.le_of_ble_eq_true rfl⟩ 0 rfl rfl ⟨rfl, rfl, rfl, rfl, by decide, rfl, rfl⟩ ?_
  refine v_iconst (pc := 5) (v := (-1)) X dX4_isTrusted_5 (by decide) ?_
  refine v_icmp_eq (pc := 6) X 13 dX4_isTrusted_6 (by decide) (fun c_6 => ?_) (fun c_6 => ?_)
  · refine v_iconst (pc := 13) (v := 0) X dX4_isTrusted_13 (by decide) ?_
    exact v_zret (pc := 14) X hr rfl dX4_isTrusted_14 () rfl (by show 0 = (f_X4_isTrusted_r mbY mho p0); simp only [f_X4_isTrusted_r, if_pos c_6])
  · refine v_iconst (pc := 9) (v := 1) X dX4_isTrusted_9 (by decide) ?_
    refine v_goto (pc := 10) X 14 dX4_isTrusted_10 (by decide) ?_
    exact v_zret (pc := 14) X hr rfl dX4_isTrusted_14 () rfl (by show 1 = (f_X4_isTrusted_r mbY mho p0); simp only [f_X4_isTrusted_r, if_neg c_6])
def FX4_isTainted_12_x2 : Nat → Int32 → Int32 → Int32 → (Nat → Int32) → (Nat → Int32) → (Nat → Int32) → Int32
  | 0, _, _, _, _, _, _ => 0
  | n + 1, x2, x3, x4, mbY, mho, mba => (if 12 ≤ x4 then x2 else (if (mbY (x3).toNatClampNeg) = (-1) then x2 else (if x2 = 0 then (if (mba ((mbY (x3).toNatClampNeg)).toNatClampNeg) = 0 then (FX4_isTainted_12_x2 n 0 (mho ((mbY (x3).toNatClampNeg)).toNatClampNeg) (x4 + 1) mbY mho mba) else (FX4_isTainted_12_x2 n 1 (mho ((mbY (x3).toNatClampNeg)).toNatClampNeg) (x4 + 1) mbY mho mba)) else (FX4_isTainted_12_x2 n 1 (mho ((mbY (x3).toNatClampNeg)).toNatClampNeg) (x4 + 1) mbY mho mba))))
def FX4_isTainted_12_x3 : Nat → Int32 → Int32 → Int32 → (Nat → Int32) → (Nat → Int32) → (Nat → Int32) → Int32
  | 0, _, _, _, _, _, _ => 0
  | n + 1, x2, x3, x4, mbY, mho, mba => (if 12 ≤ x4 then x3 else (if (mbY (x3).toNatClampNeg) = (-1) then x3 else (if x2 = 0 then (if (mba ((mbY (x3).toNatClampNeg)).toNatClampNeg) = 0 then (FX4_isTainted_12_x3 n 0 (mho ((mbY (x3).toNatClampNeg)).toNatClampNeg) (x4 + 1) mbY mho mba) else (FX4_isTainted_12_x3 n 1 (mho ((mbY (x3).toNatClampNeg)).toNatClampNeg) (x4 + 1) mbY mho mba)) else (FX4_isTainted_12_x3 n 1 (mho ((mbY (x3).toNatClampNeg)).toNatClampNeg) (x4 + 1) mbY mho mba))))
def FX4_isTainted_12_x4 : Nat → Int32 → Int32 → Int32 → (Nat → Int32) → (Nat → Int32) → (Nat → Int32) → Int32
  | 0, _, _, _, _, _, _ => 0
  | n + 1, x2, x3, x4, mbY, mho, mba => (if 12 ≤ x4 then x4 else (if (mbY (x3).toNatClampNeg) = (-1) then x4 else (if x2 = 0 then (if (mba ((mbY (x3).toNatClampNeg)).toNatClampNeg) = 0 then (FX4_isTainted_12_x4 n 0 (mho ((mbY (x3).toNatClampNeg)).toNatClampNeg) (x4 + 1) mbY mho mba) else (FX4_isTainted_12_x4 n 1 (mho ((mbY (x3).toNatClampNeg)).toNatClampNeg) (x4 + 1) mbY mho mba)) else (FX4_isTainted_12_x4 n 1 (mho ((mbY (x3).toNatClampNeg)).toNatClampNeg) (x4 + 1) mbY mho mba))))
def f_X4_isTainted_r (mbY : Nat → Int32) (mlo : Nat → Int32) (mho : Nat → Int32) (mba : Nat → Int32) (p0 : Int32) : Int32 := (FX4_isTainted_12_x2 13 (mlo (p0).toNatClampNeg) p0 0 mbY mho mba)
theorem mt_bool : ∀ (n : Nat) (x2 x3 x4 : Int32) (mbY mho mba : Nat → Int32), (x2 = 0 ∨ x2 = 1) → FX4_isTainted_12_x2 n x2 x3 x4 mbY mho mba = 0 ∨ FX4_isTainted_12_x2 n x2 x3 x4 mbY mho mba = 1
  | 0, _, _, _, _, _, _, _ => Or.inl rfl
  | n + 1, x2, x3, x4, mbY, mho, mba, h => by
    simp only [FX4_isTainted_12_x2]
    repeat' split
    all_goals first
      | exact h
      | exact mt_bool n _ _ _ _ _ _ (Or.inl rfl)
      | exact mt_bool n _ _ _ _ _ _ (Or.inr rfl)
theorem z_mt (x3 x4 : Int32) (mbY mho mba : Nat → Int32) {x2 : Int32} (h : x2 = 0 ∨ x2 = 1) : narrow .boolean (.int (FX4_isTainted_12_x2 13 x2 x3 x4 mbY mho mba)) = .int (FX4_isTainted_12_x2 13 x2 x3 x4 mbY mho mba) := by
  rcases mt_bool 13 x2 x3 x4 mbY mho mba h with e | e <;> rw [e] <;> rfl
set_option maxHeartbeats 4000000 in
set_option maxRecDepth 100000 in
theorem c_X4_isTainted (l : Launch) (G : va_G) (am : Nat → Nat) (mmi : Int32) (mwo : Nat → Int32) (mfa : Nat → Int32) (mre : Nat → Int32) (men : Nat → Int32) (mbY : Nat → Int32) (mbg : Nat → Int32) (mlo : Nat → Int32) (mnb : Int32) (mvo : Int32) (mho : Nat → Int32) (mro : Nat → Int32) (mwe : Nat → Int32) (mwi : Nat → Int32) (mba : Nat → Int32) (mkp : Nat → Int32) (mth : Nat → Int32) (msg : Nat → Int32) (mns : Int32) (mtw : Int32) (p0 : Int32) (h0 : vp_in p0 12) (hby : ∀ j : Nat, j < 12 → mbY j = -1 ∨ vp_in (mbY j) 100) (hho : ∀ j : Nat, j < 100 → vp_in (mho j) 12) (hlo : ∀ j : Nat, j < 12 → mlo j = 0 ∨ mlo j = 1) : Ke l yX4_isTainted wsX4_isTainted { frames := 0, cells := 0, slots := 0, locals := 0 } 0 0 G (wM G am mmi mwo mfa mre men mbY mbg mlo mnb mvo mho mro mwe mwi mba mkp mth msg mns mtw) [.ref (am 0), .int p0] (f_X4_isTainted_r mbY mlo mho mba p0) (wM G am mmi mwo mfa mre men mbY mbg mlo mnb mvo mho mro mwe mwi mba mkp mth msg mns mtw) := by
  refine v_ofi (cc := cX4_isTainted) (nL := 5) (lv := [(0, .ref (am 0)), (1, .int p0)]) (by decide) rfl (Nat.le_of_ble_eq_true rfl) rfl ?_
  intro p e s m args below meth c A X hr
  refine v_aload_n (pc := 0) X dX4_isTainted_0 0 rfl ?_
  refine v_get (pc := 1) (k := 7) (i := 1) X dX4_isTainted_1 (fun _ h => List.mem_cons_of_mem _ (List.mem_append_right _ h)) 0 rfl rfl (Nat.le_of_ble_eq_true rfl) rfl rfl rfl ?_
  refine v_iload_n (pc := 4) X dX4_isTainted_4 1 rfl ?_
  refine v_zald (pc := 5) X dX4_isTainted_5 7 rfl h0 rfl ?_
  refine v_istore_n (pc := 6) (lv' := [(0, .ref (am 0)), (1, .int p0), (2, .int (mlo (p0).toNatClampNeg))]) X dX4_isTainted_6 rfl (Nat.le_of_ble_eq_true rfl) [1, 2, 0] rfl ?_
  refine v_iload_n (pc := 7) X dX4_isTainted_7 1 rfl ?_
  refine v_istore_n (pc := 8) (lv' := [(0, .ref (am 0)), (1, .int p0), (2, .int (mlo (p0).toNatClampNeg)), (3, .int p0)]) X dX4_isTainted_8 rfl (Nat.le_of_ble_eq_true rfl) [1, 2, 3, 0] rfl ?_
  refine v_iconst (pc := 9) (v := 0) X dX4_isTainted_9 (by decide) ?_
  refine v_istore (pc := 10) (lv' := [(0, .ref (am 0)), (1, .int p0), (2, .int (mlo (p0).toNatClampNeg)), (3, .int p0), (4, .int 0)]) X dX4_isTainted_10 (Nat.le_of_ble_eq_true rfl) [1, 2, 3, 4, 0] rfl ?_
  have LP12 : ∀ (n : Nat) (x2 : Int32) (x3 : Int32) (x4 : Int32), ((x4 = nI (12 + 1 - n) ∧ 1 ≤ n ∧ n ≤ 12 + 1) ∧ (vp_in x3 12)) → V p l e (headSpec wsX4_isTainted { frames := 0, cells := 0, slots := 0, locals := 0 }).room s m args below meth c 5 G A 0 0 (QI below args s G A 0 0 (S := Unit) (fun x _ => x = (f_X4_isTainted_r mbY mlo mho mba p0)) (fun _ => (wM G am mmi mwo mfa mre men mbY mbg mlo mnb mvo mho mro mwe mwi mba mkp mth msg mns mtw))) (wM G am mmi mwo mfa mre men mbY mbg mlo mnb mvo mho mro mwe mwi mba mkp mth msg mns mtw) [(0, .ref (am 0)), (1, .int p0), (2, .int (FX4_isTainted_12_x2 n x2 x3 x4 mbY mho mba)), (3, .int (FX4_isTainted_12_x3 n x2 x3 x4 mbY mho mba)), (4, .int (FX4_isTainted_12_x4 n x2 x3 x4 mbY mho mba))] 71 [] → V p l e (headSpec wsX4_isTainted { frames := 0, cells := 0, slots := 0, locals := 0 }).room s m args below meth c 5 G A 0 0 (QI below args s G A 0 0 (S := Unit) (fun x _ => x = (f_X4_isTainted_r mbY mlo mho mba p0)) (fun _ => (wM G am mmi mwo mfa mre men mbY mbg mlo mnb mvo mho mro mwe mwi mba mkp mth msg mns mtw))) (wM G am mmi mwo mfa mre men mbY mbg mlo mnb mvo mho mro mwe mwi mba mkp mth msg mns mtw) [(0, .ref (am 0)), (1, .int p0), (2, .int x2), (3, .int x3), (4, .int x4)] 12 [] := by
    intro n
    induction n with
    | zero => intro x2 x3 x4 hI hK; exact False.elim (by omega)
    | succ n ih =>
      intro x2 x3 x4 hI hK
      refine v_iload (pc := 12) X dX4_isTainted_12 4 rfl ?_
      refine v_bipush (pc := 14) (v := 12) X dX4_isTainted_14 (by decide) ?_
      refine v_icmp_ge (pc := 16) X 71 dX4_isTainted_16 (by decide) (fun c_16 => ?_) (fun c_16 => ?_)
      · simpa only [FX4_isTainted_12_x2, FX4_isTainted_12_x3, FX4_isTainted_12_x4, if_pos c_16] using hK
      · have hx3 : vp_in x3 12 := hI.2
        refine v_aload_n (pc := 19) X dX4_isTainted_19 0 rfl ?_
        refine v_get (pc := 20) (k := 5) (i := 2) X dX4_isTainted_20 (fun _ h => List.mem_cons_of_mem _ (List.mem_append_right _ h)) 0 rfl rfl (Nat.le_of_ble_eq_true rfl) rfl rfl rfl ?_
        refine v_iload_n (pc := 23) X dX4_isTainted_23 3 rfl ?_
        refine v_iald (pc := 24) X dX4_isTainted_24 5 rfl hx3 rfl ?_
        refine v_iconst (pc := 25) (v := (-1)) X dX4_isTainted_25 (by decide) ?_
        refine v_icmp_eq (pc := 26) X 71 dX4_isTainted_26 (by decide) (fun c_26 => ?_) (fun c_26 => ?_)
        · simpa only [FX4_isTainted_12_x2, FX4_isTainted_12_x3, FX4_isTainted_12_x4, if_neg c_16, if_pos c_26] using hK
        · have hb : vp_in (mbY (x3).toNatClampNeg) 100 := (hby _ (vp_lt hx3)).resolve_left c_26
          refine v_iload_n (pc := 29) X dX4_isTainted_29 2 rfl ?_
          refine v_if_ne (pc := 30) X 47 dX4_isTainted_30 (by decide) (fun c_30 => ?_) (fun c_30 => ?_)
          · refine v_iconst (pc := 47) (v := 1) X dX4_isTainted_47 (by decide) ?_
            refine v_goto (pc := 48) X 52 dX4_isTainted_48 (by decide) ?_
            refine v_istore_n (pc := 52) (lv' := [(0, .ref (am 0)), (1, .int p0), (2, .int 1), (3, .int x3), (4, .int x4)]) X dX4_isTainted_52 rfl (Nat.le_of_ble_eq_true rfl) [1, 2, 0, 3, 4] rfl ?_
            refine v_aload_n (pc := 53) X dX4_isTainted_53 0 rfl ?_
            refine v_get (pc := 54) (k := 10) (i := 4) X dX4_isTainted_54 (fun _ h => List.mem_cons_of_mem _ (List.mem_append_right _ h)) 0 rfl rfl (Nat.le_of_ble_eq_true rfl) rfl rfl rfl ?_
            refine v_aload_n (pc := 57) X dX4_isTainted_57 0 rfl ?_
            refine v_get (pc := 58) (k := 5) (i := 2) X dX4_isTainted_58 (fun _ h => List.mem_cons_of_mem _ (List.mem_append_right _ h)) 0 rfl rfl (Nat.le_of_ble_eq_true rfl) rfl rfl rfl ?_
            refine v_iload_n (pc := 61) X dX4_isTainted_61 3 rfl ?_
            refine v_iald (pc := 62) X dX4_isTainted_62 5 rfl hx3 rfl ?_
            refine v_iald (pc := 63) X dX4_isTainted_63 8 rfl hb rfl ?_
            refine v_istore_n (pc := 64) (lv' := [(0, .ref (am 0)), (1, .int p0), (2, .int 1), (3, .int (mho ((mbY (x3).toNatClampNeg)).toNatClampNeg)), (4, .int x4)]) X dX4_isTainted_64 rfl (Nat.le_of_ble_eq_true rfl) [1, 2, 3, 0, 4] rfl ?_
            refine v_iinc (pc := 65) (k := 4) (v := (x4 + 1)) (lv' := [(0, .ref (am 0)), (1, .int p0), (2, .int 1), (3, .int (mho ((mbY (x3).toNatClampNeg)).toNatClampNeg)), (4, .int (x4 + 1))]) X dX4_isTainted_65 rfl rfl (Nat.le_of_ble_eq_true rfl) [1, 2, 3, 4, 0] rfl ?_
            refine v_goto (pc := 68) X 12 dX4_isTainted_68 (by decide) ?_
            exact ih 1 (mho ((mbY (x3).toNatClampNeg)).toNatClampNeg) (x4 + 1) (⟨(cnt_in (by decide) (by decide) hI.1 c_16).2, hho _ (vp_lt hb)⟩) (by simpa only [FX4_isTainted_12_x2, FX4_isTainted_12_x3, FX4_isTainted_12_x4, if_neg c_16, if_neg c_26, if_neg c_30] using hK)
          · refine v_aload_n (pc := 33) X dX4_isTainted_33 0 rfl ?_
            refine v_get (pc := 34) (k := 14) (i := 3) X dX4_isTainted_34 (fun _ h => List.mem_cons_of_mem _ (List.mem_append_right _ h)) 0 rfl rfl (Nat.le_of_ble_eq_true rfl) rfl rfl rfl ?_
            refine v_aload_n (pc := 37) X dX4_isTainted_37 0 rfl ?_
            refine v_get (pc := 38) (k := 5) (i := 2) X dX4_isTainted_38 (fun _ h => List.mem_cons_of_mem _ (List.mem_append_right _ h)) 0 rfl rfl (Nat.le_of_ble_eq_true rfl) rfl rfl rfl ?_
            refine v_iload_n (pc := 41) X dX4_isTainted_41 3 rfl ?_
            refine v_iald (pc := 42) X dX4_isTainted_42 5 rfl hx3 rfl ?_
            refine v_zald (pc := 43) X dX4_isTainted_43 12 rfl hb rfl ?_
            refine v_if_eq (pc := 44) X 51 dX4_isTainted_44 (by decide) (fun c_44 => ?_) (fun c_44 => ?_)
            · refine v_iconst (pc := 51) (v := 0) X dX4_isTainted_51 (by decide) ?_
              refine v_istore_n (pc := 52) (lv' := [(0, .ref (am 0)), (1, .int p0), (2, .int 0), (3, .int x3), (4, .int x4)]) X dX4_isTainted_52 rfl (Nat.le_of_ble_eq_true rfl) [1, 2, 0, 3, 4] rfl ?_
              refine v_aload_n (pc := 53) X dX4_isTainted_53 0 rfl ?_
              refine v_get (pc := 54) (k := 10) (i := 4) X dX4_isTainted_54 (fun _ h => List.mem_cons_of_mem _ (List.mem_append_right _ h)) 0 rfl rfl (Nat.le_of_ble_eq_true rfl) rfl rfl rfl ?_
              refine v_aload_n (pc := 57) X dX4_isTainted_57 0 rfl ?_
              refine v_get (pc := 58) (k := 5) (i := 2) X dX4_isTainted_58 (fun _ h => List.mem_cons_of_mem _ (List.mem_append_right _ h)) 0 rfl rfl (Nat.le_of_ble_eq_true rfl) rfl rfl rfl ?_
              refine v_iload_n (pc := 61) X dX4_isTainted_61 3 rfl ?_
              refine v_iald (pc := 62) X dX4_isTainted_62 5 rfl hx3 rfl ?_
              refine v_iald (pc := 63) X dX4_isTainted_63 8 rfl hb rfl ?_
              refine v_istore_n (pc := 64) (lv' := [(0, .ref (am 0)), (1, .int p0), (2, .int 0), (3, .int (mho ((mbY (x3).toNatClampNeg)).toNatClampNeg)), (4, .int x4)]) X dX4_isTainted_64 rfl (Nat.le_of_ble_eq_true rfl) [1, 2, 3, 0, 4] rfl ?_
              refine v_iinc (pc := 65) (k := 4) (v := (x4 + 1)) (lv' := [(0, .ref (am 0)), (1, .int p0), (2, .int 0), (3, .int (mho ((mbY (x3).toNatClampNeg)).toNatClampNeg)), (4, .int (x4 + 1))]) X dX4_isTainted_65 rfl rfl (Nat.le_of_ble_eq_true rfl) [1, 2, 3, 4, 0] rfl ?_
              refine v_goto (pc := 68) X 12 dX4_isTainted_68 (by decide) ?_
              exact ih 0 (mho ((mbY (x3).toNatClampNeg)).toNatClampNeg) (x4 + 1) (⟨(cnt_in (by decide) (by decide) hI.1 c_16).2, hho _ (vp_lt hb)⟩) (by simpa only [FX4_isTainted_12_x2, FX4_isTainted_12_x3, FX4_isTainted_12_x4, if_neg c_16, if_neg c_26, if_pos c_30, if_pos c_44] using hK)
            · refine v_iconst (pc := 47) (v := 1) X dX4_isTainted_47 (by decide) ?_
              refine v_goto (pc := 48) X 52 dX4_isTainted_48 (by decide) ?_
              refine v_istore_n (pc := 52) (lv' := [(0, .ref (am 0)), (1, .int p0), (2, .int 1), (3, .int x3), (4, .int x4)]) X dX4_isTainted_52 rfl (Nat.le_of_ble_eq_true rfl) [1, 2, 0, 3, 4] rfl ?_
              refine v_aload_n (pc := 53) X dX4_isTainted_53 0 rfl ?_
              refine v_get (pc := 54) (k := 10) (i := 4) X dX4_isTainted_54 (fun _ h => List.mem_cons_of_mem _ (List.mem_append_right _ h)) 0 rfl rfl (Nat.le_of_ble_eq_true rfl) rfl rfl rfl ?_
              refine v_aload_n (pc := 57) X dX4_isTainted_57 0 rfl ?_
              refine v_get (pc := 58) (k := 5) (i := 2) X dX4_isTainted_58 (fun _ h => List.mem_cons_of_mem _ (List.mem_append_right _ h)) 0 rfl rfl (Nat.le_of_ble_eq_true rfl) rfl rfl rfl ?_
              refine v_iload_n (pc := 61) X dX4_isTainted_61 3 rfl ?_
              refine v_iald (pc := 62) X dX4_isTainted_62 5 rfl hx3 rfl ?_
              refine v_iald (pc := 63) X dX4_isTainted_63 8 rfl hb rfl ?_
              refine v_istore_n (pc := 64) (lv' := [(0, .ref (am 0)), (1, .int p0), (2, .int 1), (3, .int (mho ((mbY (x3).toNatClampNeg)).toNatClampNeg)), (4, .int x4)]) X dX4_isTainted_64 rfl (Nat.le_of_ble_eq_true rfl) [1, 2, 3, 0, 4] rfl ?_
              refine v_iinc (pc := 65) (k := 4) (v := (x4 + 1)) (lv' := [(0, .ref (am 0)), (1, .int p0), (2, .int 1), (3, .int (mho ((mbY (x3).toNatClampNeg)).toNatClampNeg)), (4, .int (x4 + 1))]) X dX4_isTainted_65 rfl rfl (Nat.le_of_ble_eq_true rfl) [1, 2, 3, 4, 0] rfl ?_
              refine v_goto (pc := 68) X 12 dX4_isTainted_68 (by decide) ?_
              exact ih 1 (mho ((mbY (x3).toNatClampNeg)).toNatClampNeg) (x4 + 1) (⟨(cnt_in (by decide) (by decide) hI.1 c_16).2, hho _ (vp_lt hb)⟩) (by simpa only [FX4_isTainted_12_x2, FX4_isTainted_12_x3, FX4_isTainted_12_x4, if_neg c_16, if_neg c_26, if_pos c_30, if_neg c_44] using hK)
  refine LP12 13 (mlo (p0).toNatClampNeg) p0 0 (⟨⟨by decide, by decide, by decide⟩, h0⟩) ?_
  refine v_iload_n (pc := 71) X dX4_isTainted_71 2 rfl ?_
  exact v_zret (pc := 72) X hr (z_mt _ _ _ _ _ (hlo _ (vp_lt h0))) dX4_isTainted_72 () rfl (by show (FX4_isTainted_12_x2 13 (mlo (p0).toNatClampNeg) p0 0 mbY mho mba) = (f_X4_isTainted_r mbY mlo mho mba p0); simp only [f_X4_isTainted_r])
