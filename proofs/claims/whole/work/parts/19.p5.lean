set_option maxHeartbeats 4000000 in
theorem s_word {n : Nat} {mmi : Int32} {mwo : Nat → Int32} {mfa : Nat → Int32} {men : Nat → Int32} {mbY : Nat → Int32} {mbg : Nat → Int32} {mlo : Nat → Int32} {mnb : Int32} {mvo : Int32} {mho : Nat → Int32} {mro : Nat → Int32} {mwe : Nat → Int32} {mwi : Nat → Int32} {mba : Nat → Int32} {msg : Nat → Int32} {th : Nat → Int32} {tr : Nat → Int32} {tm : Nat → Int32} {tb : Nat → Int32} {td : Nat → Int32} {lk : Nat → Int32} {lp : Nat → Int32} {lg : Nat → Int32} {lm : Nat → Int32} {ls : Int32} {p0 : Int32} {p1 : Int32} (hn : n < 512) (hI : Inv (n) th tr tm tb td lk lp lg lm ls mfa mbY mbg mlo mnb mvo mho mro mwe mwi mba msg) : (f_L_word_r mmi men p0 p1) = (f_X4_word_mtw mmi men p0 p1) ∧ (f_L_word_dw mmi mwo men p0 p1) = (f_X4_word_mwo mmi mwo men p0 p1) ∧ Inv (n + 1) th tr tm tb td lk lp lg lm ls mfa mbY mbg mlo mnb mvo mho mro mwe mwi mba msg := by
  have hI1 := inv_succ hI
  have hI0 := hI
  obtain ⟨hfa, ⟨N, hN, hvo, hR, hb0⟩, hho, hba, hlo, ⟨B, hnb, hB⟩, hbg, ⟨L, hls, hL, hev, hrp⟩, hsg⟩ := hI
  rcases per_cs p0 with ⟨perp03, perp04⟩ | ⟨perp03, perp04⟩
  · simp [f_X3_word_k, f_X3_word_dw, f_X4_word_mwo, f_X4_word_mtw, f_L_word_r, f_L_word_dw, f_X4_goes_r, f_X4_goes_mtw, f_X0_setWord_dw, isIn_eq, perp03, perp04, hI1]
  · have perp0n : ¬ f_X3_isPerson_r p0 = 0 := by rw [perp03]; decide
    by_cases rp1a : p1 < 0
    · have rp1i := in_lo (b := 999) rp1a
      simp [f_X3_word_k, f_X3_word_dw, f_X4_word_mwo, f_X4_word_mtw, f_L_word_r, f_L_word_dw, f_X4_goes_r, f_X4_goes_mtw, f_X0_setWord_dw, isIn_eq, perp03, perp04, rp1a, rp1i, hI1]
    · by_cases rp1b : 999 < p1
      · have rp1i := in_hi (a := 0) rp1b
        have rp1c := Int32.not_le.mpr rp1b
        simp [f_X3_word_k, f_X3_word_dw, f_X4_word_mwo, f_X4_word_mtw, f_L_word_r, f_L_word_dw, f_X4_goes_r, f_X4_goes_mtw, f_X0_setWord_dw, isIn_eq, perp03, perp04, rp1a, rp1b, rp1c, rp1i, hI1]
      · have rp1i := in_ok rp1a rp1b
        have rp1c := Int32.not_lt.mp rp1b
        by_cases ins : f_X0_isInSession_r men p0 mmi = 0
        · skip
          simp [f_X3_word_k, f_X3_word_dw, f_X4_word_mwo, f_X4_word_mtw, f_L_word_r, f_L_word_dw, f_X4_goes_r, f_X4_goes_mtw, f_X0_setWord_dw, isIn_eq, perp03, perp04, rp1a, rp1b, rp1c, rp1i, ins, hI1]
        · skip
          simp [f_X3_word_k, f_X3_word_dw, f_X4_word_mwo, f_X4_word_mtw, f_L_word_r, f_L_word_dw, f_X4_goes_r, f_X4_goes_mtw, f_X0_setWord_dw, isIn_eq, perp03, perp04, rp1a, rp1b, rp1c, rp1i, ins, hI1]
theorem fa_put3 {fa : Nat → Int32} (h : ∀ j : Nat, j < 12 → fa j = 0 ∨ fa j = 1 ∨ fa j = 2) (i : Nat) : ∀ j : Nat, j < 12 → upd (upd fa i 3) i 0 j = 0 ∨ upd (upd fa i 3) i 0 j = 1 ∨ upd (upd fa i 3) i 0 j = 2 := fun j hj => by
  by_cases c : j = i
  · subst c; rw [upd_at]; exact Or.inl rfl
  · rw [upd_ne _ _ c, upd_ne _ _ c]; exact h j hj
set_option maxHeartbeats 4000000 in
theorem s_login {n : Nat} {mmi : Int32} {mwo : Nat → Int32} {mfa : Nat → Int32} {mre : Nat → Int32} {men : Nat → Int32} {mbY : Nat → Int32} {mbg : Nat → Int32} {mlo : Nat → Int32} {mnb : Int32} {mvo : Int32} {mho : Nat → Int32} {mro : Nat → Int32} {mwe : Nat → Int32} {mwi : Nat → Int32} {mba : Nat → Int32} {msg : Nat → Int32} {th : Nat → Int32} {tr : Nat → Int32} {tm : Nat → Int32} {tb : Nat → Int32} {td : Nat → Int32} {lk : Nat → Int32} {lp : Nat → Int32} {lg : Nat → Int32} {lm : Nat → Int32} {ls : Int32} {oo : Nat → Int64} {p0 : Int32} {p1 : Int32} {p2 : Int32} (hn : n < 512) (hI : Inv (n) th tr tm tb td lk lp lg lm ls mfa mbY mbg mlo mnb mvo mho mro mwe mwi mba msg) : (f_L_login_r p0 p1 p2) = (f_X4_login_mtw p0 p1 p2) ∧ (f_L_login_df mmi mwo mfa mre p0 p1 p2) = (f_X4_login_mfa mmi mwo mfa mre p0 p1 p2) ∧ (f_L_login_dr mmi mwo mfa mre p0 p1 p2) = (f_X4_login_mre mmi mwo mfa mre p0 p1 p2) ∧ (f_L_login_de mmi mwo mre men p0 p1 p2) = (f_X4_login_men mmi mwo mre men p0 p1 p2) ∧ ((f_L_login_r p0 p1 p2) = 0 → (f_L_login_oo mmi mwo mre oo p0 p1 p2) 0 = (f_X4_login_r mmi mwo mre p0 p1 p2).toInt64) ∧ Inv (n + 1) th tr tm tb td lk lp lg lm ls (f_X4_login_mfa mmi mwo mfa mre p0 p1 p2) mbY mbg mlo mnb mvo mho mro mwe mwi mba msg := by
  have hI1 := inv_succ hI
  have hI0 := hI
  obtain ⟨hfa, ⟨N, hN, hvo, hR, hb0⟩, hho, hba, hlo, ⟨B, hnb, hB⟩, hbg, ⟨L, hls, hL, hev, hrp⟩, hsg⟩ := hI
  rcases per_cs p0 with ⟨perp03, perp04⟩ | ⟨perp03, perp04⟩
  · simp [f_X3_login_r, f_X3_login_k, f_X3_login_df, f_X3_login_dr, f_X3_login_de, f_X4_login_r, f_X4_login_mfa, f_X4_login_mre, f_X4_login_men, f_X4_login_mtw, f_L_login_r, f_L_login_df, f_L_login_dr, f_L_login_de, f_L_login_oo, f_X4_goes_r, f_X4_goes_mtw, f_X0_tryLogin_r, f_X0_tryLogin_df, f_X0_tryLogin_dr, f_X0_tryLogin_de, f_X0_codeOf_r, f_X0_countFailure_df, f_X0_countFailure_dr, upd_at, vp_updL, perp03, perp04, hI1]
  · have perp0n : ¬ f_X3_isPerson_r p0 = 0 := by rw [perp03]; decide
    by_cases rp1a : p1 < 0
    · have rp1i := in_lo (b := 999) rp1a
      simp [f_X3_login_r, f_X3_login_k, f_X3_login_df, f_X3_login_dr, f_X3_login_de, f_X4_login_r, f_X4_login_mfa, f_X4_login_mre, f_X4_login_men, f_X4_login_mtw, f_L_login_r, f_L_login_df, f_L_login_dr, f_L_login_de, f_L_login_oo, f_X4_goes_r, f_X4_goes_mtw, f_X0_tryLogin_r, f_X0_tryLogin_df, f_X0_tryLogin_dr, f_X0_tryLogin_de, f_X0_codeOf_r, f_X0_countFailure_df, f_X0_countFailure_dr, upd_at, vp_updL, perp03, perp04, rp1a, rp1i, hI1]
    · by_cases rp1b : 999 < p1
      · have rp1i := in_hi (a := 0) rp1b
        have rp1c := Int32.not_le.mpr rp1b
        simp [f_X3_login_r, f_X3_login_k, f_X3_login_df, f_X3_login_dr, f_X3_login_de, f_X4_login_r, f_X4_login_mfa, f_X4_login_mre, f_X4_login_men, f_X4_login_mtw, f_L_login_r, f_L_login_df, f_L_login_dr, f_L_login_de, f_L_login_oo, f_X4_goes_r, f_X4_goes_mtw, f_X0_tryLogin_r, f_X0_tryLogin_df, f_X0_tryLogin_dr, f_X0_tryLogin_de, f_X0_codeOf_r, f_X0_countFailure_df, f_X0_countFailure_dr, upd_at, vp_updL, perp03, perp04, rp1a, rp1b, rp1c, rp1i, hI1]
      · have rp1i := in_ok rp1a rp1b
        have rp1c := Int32.not_lt.mp rp1b
        by_cases rp2a : p2 < 0
        · have rp2i := in_lo (b := 9) rp2a
          simp [f_X3_login_r, f_X3_login_k, f_X3_login_df, f_X3_login_dr, f_X3_login_de, f_X4_login_r, f_X4_login_mfa, f_X4_login_mre, f_X4_login_men, f_X4_login_mtw, f_L_login_r, f_L_login_df, f_L_login_dr, f_L_login_de, f_L_login_oo, f_X4_goes_r, f_X4_goes_mtw, f_X0_tryLogin_r, f_X0_tryLogin_df, f_X0_tryLogin_dr, f_X0_tryLogin_de, f_X0_codeOf_r, f_X0_countFailure_df, f_X0_countFailure_dr, upd_at, vp_updL, perp03, perp04, rp1a, rp1b, rp1c, rp1i, rp2a, rp2i, hI1]
        · by_cases rp2b : 9 < p2
          · have rp2i := in_hi (a := 0) rp2b
            have rp2c := Int32.not_le.mpr rp2b
            simp [f_X3_login_r, f_X3_login_k, f_X3_login_df, f_X3_login_dr, f_X3_login_de, f_X4_login_r, f_X4_login_mfa, f_X4_login_mre, f_X4_login_men, f_X4_login_mtw, f_L_login_r, f_L_login_df, f_L_login_dr, f_L_login_de, f_L_login_oo, f_X4_goes_r, f_X4_goes_mtw, f_X0_tryLogin_r, f_X0_tryLogin_df, f_X0_tryLogin_dr, f_X0_tryLogin_de, f_X0_codeOf_r, f_X0_countFailure_df, f_X0_countFailure_dr, upd_at, vp_updL, perp03, perp04, rp1a, rp1b, rp1c, rp1i, rp2a, rp2b, rp2c, rp2i, hI1]
          · have rp2i := in_ok rp2a rp2b
            have rp2c := Int32.not_lt.mp rp2b
            have pin := per_in perp0n
            have hA := fun w hw => inv_fa hI1 (fa_put hfa p0.toNatClampNeg (w := w) hw)
            have hB := fun w hw => inv_fa hI1 (fa_put (fa_put (fa := mfa) (w := w) hfa p0.toNatClampNeg hw) p0.toNatClampNeg (w := 0) (Or.inl rfl))
            have A0 := hA 0 (Or.inl rfl)
            by_cases c1 : mre p0.toNatClampNeg ≤ mmi
            · by_cases c2 : p1 = mwo p0.toNatClampNeg
              · by_cases c3 : p2 = (((7 * p0) + (3 * mmi)) - ((7 * p0) + (3 * mmi)) / 10 * 10)
                · simp [f_X3_login_r, f_X3_login_k, f_X3_login_df, f_X3_login_dr, f_X3_login_de, f_X4_login_r, f_X4_login_mfa, f_X4_login_mre, f_X4_login_men, f_X4_login_mtw, f_L_login_r, f_L_login_df, f_L_login_dr, f_L_login_de, f_L_login_oo, f_X4_goes_r, f_X4_goes_mtw, f_X0_tryLogin_r, f_X0_tryLogin_df, f_X0_tryLogin_dr, f_X0_tryLogin_de, f_X0_codeOf_r, f_X0_countFailure_df, f_X0_countFailure_dr, upd_at, vp_updL, perp03, perp04, rp1a, rp1b, rp1c, rp1i, rp2a, rp2b, rp2c, rp2i, c1, ← c2, ← c3, A0]
                · rcases fa_3 (hfa _ (vp_lt pin)) with ⟨u1, u2, u3⟩ | ⟨u1, u2⟩
                  · have A1 := hA _ u3
                    simp [f_X3_login_r, f_X3_login_k, f_X3_login_df, f_X3_login_dr, f_X3_login_de, f_X4_login_r, f_X4_login_mfa, f_X4_login_mre, f_X4_login_men, f_X4_login_mtw, f_L_login_r, f_L_login_df, f_L_login_dr, f_L_login_de, f_L_login_oo, f_X4_goes_r, f_X4_goes_mtw, f_X0_tryLogin_r, f_X0_tryLogin_df, f_X0_tryLogin_dr, f_X0_tryLogin_de, f_X0_codeOf_r, f_X0_countFailure_df, f_X0_countFailure_dr, upd_at, vp_updL, perp03, perp04, rp1a, rp1b, rp1c, rp1i, rp2a, rp2b, rp2c, rp2i, c1, ← c2, c3, u1, u2, A1]
                  · have A2 := inv_fa hI1 (fa_put3 hfa p0.toNatClampNeg)
                    simp [f_X3_login_r, f_X3_login_k, f_X3_login_df, f_X3_login_dr, f_X3_login_de, f_X4_login_r, f_X4_login_mfa, f_X4_login_mre, f_X4_login_men, f_X4_login_mtw, f_L_login_r, f_L_login_df, f_L_login_dr, f_L_login_de, f_L_login_oo, f_X4_goes_r, f_X4_goes_mtw, f_X0_tryLogin_r, f_X0_tryLogin_df, f_X0_tryLogin_dr, f_X0_tryLogin_de, f_X0_codeOf_r, f_X0_countFailure_df, f_X0_countFailure_dr, upd_at, vp_updL, perp03, perp04, rp1a, rp1b, rp1c, rp1i, rp2a, rp2b, rp2c, rp2i, c1, ← c2, c3, u1, A2, u2]
              · rcases fa_3 (hfa _ (vp_lt pin)) with ⟨u1, u2, u3⟩ | ⟨u1, u2⟩
                · have A1 := hA _ u3
                  simp [f_X3_login_r, f_X3_login_k, f_X3_login_df, f_X3_login_dr, f_X3_login_de, f_X4_login_r, f_X4_login_mfa, f_X4_login_mre, f_X4_login_men, f_X4_login_mtw, f_L_login_r, f_L_login_df, f_L_login_dr, f_L_login_de, f_L_login_oo, f_X4_goes_r, f_X4_goes_mtw, f_X0_tryLogin_r, f_X0_tryLogin_df, f_X0_tryLogin_dr, f_X0_tryLogin_de, f_X0_codeOf_r, f_X0_countFailure_df, f_X0_countFailure_dr, upd_at, vp_updL, perp03, perp04, rp1a, rp1b, rp1c, rp1i, rp2a, rp2b, rp2c, rp2i, c1, c2, u1, u2, A1]
                · have A2 := inv_fa hI1 (fa_put3 hfa p0.toNatClampNeg)
                  simp [f_X3_login_r, f_X3_login_k, f_X3_login_df, f_X3_login_dr, f_X3_login_de, f_X4_login_r, f_X4_login_mfa, f_X4_login_mre, f_X4_login_men, f_X4_login_mtw, f_L_login_r, f_L_login_df, f_L_login_dr, f_L_login_de, f_L_login_oo, f_X4_goes_r, f_X4_goes_mtw, f_X0_tryLogin_r, f_X0_tryLogin_df, f_X0_tryLogin_dr, f_X0_tryLogin_de, f_X0_codeOf_r, f_X0_countFailure_df, f_X0_countFailure_dr, upd_at, vp_updL, perp03, perp04, rp1a, rp1b, rp1c, rp1i, rp2a, rp2b, rp2c, rp2i, c1, c2, u1, A2, u2]
            · simp [f_X3_login_r, f_X3_login_k, f_X3_login_df, f_X3_login_dr, f_X3_login_de, f_X4_login_r, f_X4_login_mfa, f_X4_login_mre, f_X4_login_men, f_X4_login_mtw, f_L_login_r, f_L_login_df, f_L_login_dr, f_L_login_de, f_L_login_oo, f_X4_goes_r, f_X4_goes_mtw, f_X0_tryLogin_r, f_X0_tryLogin_df, f_X0_tryLogin_dr, f_X0_tryLogin_de, f_X0_codeOf_r, f_X0_countFailure_df, f_X0_countFailure_dr, upd_at, vp_updL, perp03, perp04, rp1a, rp1b, rp1c, rp1i, rp2a, rp2b, rp2c, rp2i, c1, hI1]
set_option maxHeartbeats 4000000 in
theorem s_pass {n : Nat} {mmi : Int32} {mfa : Nat → Int32} {mbY : Nat → Int32} {mbg : Nat → Int32} {mlo : Nat → Int32} {mnb : Int32} {mvo : Int32} {mho : Nat → Int32} {mro : Nat → Int32} {mwe : Nat → Int32} {mwi : Nat → Int32} {mba : Nat → Int32} {msg : Nat → Int32} {th : Nat → Int32} {tr : Nat → Int32} {tm : Nat → Int32} {tb : Nat → Int32} {td : Nat → Int32} {lk : Nat → Int32} {lp : Nat → Int32} {lg : Nat → Int32} {lm : Nat → Int32} {ls : Int32} {oo : Nat → Int64} {p0 : Int32} (hn : n < 512) (hI : Inv (n) th tr tm tb td lk lp lg lm ls mfa mbY mbg mlo mnb mvo mho mro mwe mwi mba msg) : (f_L_pass_r p0) = (f_X4_pass_mtw p0) ∧ (f_L_pass_nw mmi p0) = (f_X4_pass_mmi mmi p0) ∧ ((f_L_pass_r p0) = 0 → (f_L_pass_oo mmi oo p0) 0 = (f_X4_pass_r mmi p0).toInt64) ∧ Inv (n + 1) th tr tm tb td lk lp lg lm ls mfa mbY mbg mlo mnb mvo mho mro mwe mwi mba msg := by
  have hI1 := inv_succ hI
  have hI0 := hI
  obtain ⟨hfa, ⟨N, hN, hvo, hR, hb0⟩, hho, hba, hlo, ⟨B, hnb, hB⟩, hbg, ⟨L, hls, hL, hev, hrp⟩, hsg⟩ := hI
  by_cases rp0a : p0 < 1
  · have rp0i := in_lo (b := 500) rp0a
    simp [f_X3_pass_r, f_X3_pass_k, f_X3_pass_nw, f_X4_pass_r, f_X4_pass_mmi, f_X4_pass_mtw, f_L_pass_r, f_L_pass_nw, f_L_pass_oo, f_X4_goes_r, f_X4_goes_mtw, vp_updL, rp0a, rp0i, hI1]
  · by_cases rp0b : 500 < p0
    · have rp0i := in_hi (a := 1) rp0b
      have rp0c := Int32.not_le.mpr rp0b
      simp [f_X3_pass_r, f_X3_pass_k, f_X3_pass_nw, f_X4_pass_r, f_X4_pass_mmi, f_X4_pass_mtw, f_L_pass_r, f_L_pass_nw, f_L_pass_oo, f_X4_goes_r, f_X4_goes_mtw, vp_updL, rp0a, rp0b, rp0c, rp0i, hI1]
    · have rp0i := in_ok rp0a rp0b
      have rp0c := Int32.not_lt.mp rp0b
      simp [f_X3_pass_r, f_X3_pass_k, f_X3_pass_nw, f_X4_pass_r, f_X4_pass_mmi, f_X4_pass_mtw, f_L_pass_r, f_L_pass_nw, f_L_pass_oo, f_X4_goes_r, f_X4_goes_mtw, vp_updL, rp0a, rp0b, rp0c, rp0i, hI1]
set_option maxHeartbeats 4000000 in
theorem s_door {n : Nat} {mfa : Nat → Int32} {mbY : Nat → Int32} {mbg : Nat → Int32} {mlo : Nat → Int32} {mnb : Int32} {mvo : Int32} {mho : Nat → Int32} {mro : Nat → Int32} {mwe : Nat → Int32} {mwi : Nat → Int32} {mba : Nat → Int32} {msg : Nat → Int32} {th : Nat → Int32} {tr : Nat → Int32} {tm : Nat → Int32} {tb : Nat → Int32} {td : Nat → Int32} {lk : Nat → Int32} {lp : Nat → Int32} {lg : Nat → Int32} {lm : Nat → Int32} {ls : Int32} {oo : Nat → Int64} {p0 : Int32} {p1 : Int32} (hn : n < 512) (hI : Inv (n) th tr tm tb td lk lp lg lm ls mfa mbY mbg mlo mnb mvo mho mro mwe mwi mba msg) : (f_L_door_r p0 p1) = (f_X4_door_mtw p0 p1) ∧ ((f_L_door_r p0 p1) = 0 → (f_L_door_oo th tr td mlo oo p0 p1) 0 = (if (f_X4_door_r mbY mlo mho mro mba p0 p1) = 0 then 0 else 1)) ∧ Inv (n + 1) th tr tm tb td lk lp lg lm ls mfa mbY mbg mlo mnb mvo mho mro mwe mwi mba msg := by
  have hI1 := inv_succ hI
  have hI0 := hI
  obtain ⟨hfa, ⟨N, hN, hvo, hR, hb0⟩, hho, hba, hlo, ⟨B, hnb, hB⟩, hbg, ⟨L, hls, hL, hev, hrp⟩, hsg⟩ := hI
  rcases per_cs p0 with ⟨perp03, perp04⟩ | ⟨perp03, perp04⟩
  · simp [f_X3_door_r, f_X3_door_k, f_X4_door_r, f_X4_door_mtw, f_L_door_r, f_L_door_oo, f_X4_goes_r, f_X4_goes_mtw, vp_updL, perp03, perp04, hI1]
  · have perp0n : ¬ f_X3_isPerson_r p0 = 0 := by rw [perp03]; decide
    by_cases ra : p1 < 0
    · skip
      have ri : f_X4_in_r p1 0 5 = 0 := in_lo ra
      simp [f_X3_door_r, f_X3_door_k, f_X4_door_r, f_X4_door_mtw, f_L_door_r, f_L_door_oo, f_X4_goes_r, f_X4_goes_mtw, vp_updL, perp03, perp04, ra, ri, hI1]
    · skip
      by_cases rb : p1 < 6
      · skip
        have ri : f_X4_in_r p1 0 5 = 1 := in_ok ra (fun z => absurd rb (Int32.not_lt.mpr ((ge_gt (a := 6) (b := 5) (by decide)).mpr z)))
        have pin := per_in perp0n
        have e1 := rooms_eq hR hN pin
        have e2 := taint_eq hR hN hlo pin
        by_cases c1 : ((f_X2_roomsOf_r th tr p0 >>> (p1 &&& 31)) &&& 1) = 1
        · by_cases c2 : f_X2_isTainted_r th td mlo p0 = 0
          · simp [f_X3_door_r, f_X3_door_k, f_X4_door_r, f_X4_door_mtw, f_L_door_r, f_L_door_oo, f_X4_goes_r, f_X4_goes_mtw, vp_updL, perp03, perp04, ra, rb, ri, e1, e2, c1, c2, hI1, f_X3_holds_r]
          · simp [f_X3_door_r, f_X3_door_k, f_X4_door_r, f_X4_door_mtw, f_L_door_r, f_L_door_oo, f_X4_goes_r, f_X4_goes_mtw, vp_updL, perp03, perp04, ra, rb, ri, e1, e2, c1, c2, hI1, f_X3_holds_r]
        · simp [f_X3_door_r, f_X3_door_k, f_X4_door_r, f_X4_door_mtw, f_L_door_r, f_L_door_oo, f_X4_goes_r, f_X4_goes_mtw, vp_updL, perp03, perp04, ra, rb, ri, e1, c1, hI1, f_X3_holds_r]
      · skip
        have ri : f_X4_in_r p1 0 5 = 0 := in_hi ((ge_gt (a := 6) (b := 5) (by decide)).mp (Int32.not_lt.mp rb))
        simp [f_X3_door_r, f_X3_door_k, f_X4_door_r, f_X4_door_mtw, f_L_door_r, f_L_door_oo, f_X4_goes_r, f_X4_goes_mtw, vp_updL, perp03, perp04, ra, rb, ri, hI1]
set_option maxHeartbeats 4000000 in
theorem s_chain {n : Nat} {mfa : Nat → Int32} {mbY : Nat → Int32} {mbg : Nat → Int32} {mlo : Nat → Int32} {mnb : Int32} {mvo : Int32} {mho : Nat → Int32} {mro : Nat → Int32} {mwe : Nat → Int32} {mwi : Nat → Int32} {mba : Nat → Int32} {msg : Nat → Int32} {th : Nat → Int32} {tr : Nat → Int32} {tm : Nat → Int32} {tb : Nat → Int32} {td : Nat → Int32} {lk : Nat → Int32} {lp : Nat → Int32} {lg : Nat → Int32} {lm : Nat → Int32} {ls : Int32} {oo : Nat → Int64} {p0 : Int32} (hn : n < 512) (hI : Inv (n) th tr tm tb td lk lp lg lm ls mfa mbY mbg mlo mnb mvo mho mro mwe mwi mba msg) : (f_L_chain_r p0) = (f_X4_chain_mtw p0) ∧ ((f_L_chain_r p0) = 0 → (f_L_chain_oo th oo p0) 0 = (f_X4_chain_r mbY mho p0).toInt64) ∧ Inv (n + 1) th tr tm tb td lk lp lg lm ls mfa mbY mbg mlo mnb mvo mho mro mwe mwi mba msg := by
  have hI1 := inv_succ hI
  have hI0 := hI
  obtain ⟨hfa, ⟨N, hN, hvo, hR, hb0⟩, hho, hba, hlo, ⟨B, hnb, hB⟩, hbg, ⟨L, hls, hL, hev, hrp⟩, hsg⟩ := hI
  rcases per_cs p0 with ⟨perp03, perp04⟩ | ⟨perp03, perp04⟩
  · simp [f_X3_chain_r, f_X3_chain_k, f_X4_chain_r, f_X4_chain_mtw, f_L_chain_r, f_L_chain_oo, f_X4_goes_r, f_X4_goes_mtw, vp_updL, perp03, perp04, hI1]
  · have perp0n : ¬ f_X3_isPerson_r p0 = 0 := by rw [perp03]; decide
    have e1 := chain_eq hR hN (per_in perp0n)
    simp [f_X3_chain_r, f_X3_chain_k, f_X4_chain_r, f_X4_chain_mtw, f_L_chain_r, f_L_chain_oo, f_X4_goes_r, f_X4_goes_mtw, vp_updL, perp03, perp04, e1, hI1]
set_option maxHeartbeats 4000000 in
theorem s_use {n : Nat} {mmi : Int32} {mfa : Nat → Int32} {men : Nat → Int32} {mbY : Nat → Int32} {mbg : Nat → Int32} {mlo : Nat → Int32} {mnb : Int32} {mvo : Int32} {mho : Nat → Int32} {mro : Nat → Int32} {mwe : Nat → Int32} {mwi : Nat → Int32} {mba : Nat → Int32} {mkp : Nat → Int32} {mth : Nat → Int32} {msg : Nat → Int32} {th : Nat → Int32} {tr : Nat → Int32} {tm : Nat → Int32} {tb : Nat → Int32} {td : Nat → Int32} {lk : Nat → Int32} {lp : Nat → Int32} {lg : Nat → Int32} {lm : Nat → Int32} {ls : Int32} {oo : Nat → Int64} {p0 : Int32} (hn : n < 512) (hI : Inv (n) th tr tm tb td lk lp lg lm ls mfa mbY mbg mlo mnb mvo mho mro mwe mwi mba msg) : (f_L_use_r p0) = (f_X4_use_mtw p0) ∧ ((f_L_use_r p0) = 0 → (f_L_use_oo mkp mth mmi men th td mlo oo p0) 0 = (if (f_X4_use_r mmi men mbY mlo mho mba mkp mth p0) = 0 then 0 else 1)) ∧ Inv (n + 1) th tr tm tb td lk lp lg lm ls mfa mbY mbg mlo mnb mvo mho mro mwe mwi mba msg := by
  have hI1 := inv_succ hI
  have hI0 := hI
  obtain ⟨hfa, ⟨N, hN, hvo, hR, hb0⟩, hho, hba, hlo, ⟨B, hnb, hB⟩, hbg, ⟨L, hls, hL, hev, hrp⟩, hsg⟩ := hI
  rcases key_cs p0 with ⟨keyp03, keyp04⟩ | ⟨keyp03, keyp04⟩
  · simp [f_X3_use_r, f_X3_use_k, f_X4_use_r, f_X4_use_mtw, f_L_use_r, f_L_use_oo, f_X4_goes_r, f_X4_goes_mtw, vp_updL, keyp03, keyp04, hI1]
  · have keyp0n : ¬ f_X3_isKey_r p0 = 0 := by rw [keyp03]; decide
    have e1 := users_eq hR hN hlo mmi men mkp p0
    by_cases c1 : f_X3_countUsers_r mkp mmi men th td mlo p0 < mth p0.toNatClampNeg
    · simp [f_X3_use_r, f_X3_use_k, f_X4_use_r, f_X4_use_mtw, f_L_use_r, f_L_use_oo, f_X4_goes_r, f_X4_goes_mtw, vp_updL, keyp03, keyp04, e1, c1, hI1]
    · simp [f_X3_use_r, f_X3_use_k, f_X4_use_r, f_X4_use_mtw, f_L_use_r, f_L_use_oo, f_X4_goes_r, f_X4_goes_mtw, vp_updL, keyp03, keyp04, e1, c1, hI1]
theorem in_out {x : Int32} (n : Nat) (hn : n < 100) (h : ∀ k : Nat, k ≤ n → ¬ x = nI k) : f_X4_in_r x 0 (nI n) = 0 := by
  by_cases c : x < 0
  · exact in_lo c
  · obtain ⟨j, hj, rfl⟩ := nI_of c
    refine in_hi ((nI_ltI (a := n) (b := j) (by omega) hj).mpr ?_)
    rcases Nat.lt_or_ge n j with z | z
    · exact z
    · exact absurd rfl (h j z)
theorem in_02 {x : Int32} (a : ¬ x = 0) (b : ¬ x = 1) (c : ¬ x = 2) : f_X4_in_r x 0 2 = 0 := in_out 2 (by decide) (fun k hk => match k, hk with | 0, _ => a | 1, _ => b | 2, _ => c)
theorem in_07 {x : Int32} (a : ¬ x = 0) (b : ¬ x = 1) (c : ¬ x = 2) (d : ¬ x = 3) (e : ¬ x = 4) (f : ¬ x = 5) (g : ¬ x = 6) (h : ¬ x = 7) : f_X4_in_r x 0 7 = 0 := in_out 7 (by decide) (fun k hk => match k, hk with | 0, _ => a | 1, _ => b | 2, _ => c | 3, _ => d | 4, _ => e | 5, _ => f | 6, _ => g | 7, _ => h)
set_option maxHeartbeats 4000000 in
theorem s_keyOf {n : Nat} {mmi : Int32} {mfa : Nat → Int32} {men : Nat → Int32} {mbY : Nat → Int32} {mbg : Nat → Int32} {mlo : Nat → Int32} {mnb : Int32} {mvo : Int32} {mho : Nat → Int32} {mro : Nat → Int32} {mwe : Nat → Int32} {mwi : Nat → Int32} {mba : Nat → Int32} {mkp : Nat → Int32} {mth : Nat → Int32} {msg : Nat → Int32} {th : Nat → Int32} {tr : Nat → Int32} {tm : Nat → Int32} {tb : Nat → Int32} {td : Nat → Int32} {lk : Nat → Int32} {lp : Nat → Int32} {lg : Nat → Int32} {lm : Nat → Int32} {ls : Int32} {oo : Nat → Int64} {p0 : Int32} {p1 : Int32} (hn : n < 512) (hI : Inv (n) th tr tm tb td lk lp lg lm ls mfa mbY mbg mlo mnb mvo mho mro mwe mwi mba msg) : (f_L_keyOf_r p0 p1) = (f_X4_keyOf_mtw p0 p1) ∧ ((f_L_keyOf_r p0 p1) = 0 → (f_L_keyOf_oo mkp mth mmi men th td mlo oo p0 p1) 0 = (f_X4_keyOf_r mmi men mbY mlo mho mba mkp mth p0 p1).toInt64) ∧ Inv (n + 1) th tr tm tb td lk lp lg lm ls mfa mbY mbg mlo mnb mvo mho mro mwe mwi mba msg := by
  have hI1 := inv_succ hI
  have hI0 := hI
  obtain ⟨hfa, ⟨N, hN, hvo, hR, hb0⟩, hho, hba, hlo, ⟨B, hnb, hB⟩, hbg, ⟨L, hls, hL, hev, hrp⟩, hsg⟩ := hI
  rcases key_cs p0 with ⟨keyp03, keyp04⟩ | ⟨keyp03, keyp04⟩
  · simp [f_X3_keyOf_r, f_X3_keyOf_k, f_X4_keyOf_r, f_X4_keyOf_mtw, f_L_keyOf_r, f_L_keyOf_oo, f_X4_goes_r, f_X4_goes_mtw, vp_updL, keyp03, keyp04, hI1]
  · have keyp0n : ¬ f_X3_isKey_r p0 = 0 := by rw [keyp03]; decide
    have e1 := users_eq hR hN hlo mmi men mkp p0
    by_cases k0 : p1 = 0
    · subst k0
      have ri : f_X4_in_r 0 0 2 = 1 := by decide
      simp [f_X3_keyOf_r, f_X3_keyOf_k, f_X4_keyOf_r, f_X4_keyOf_mtw, f_L_keyOf_r, f_L_keyOf_oo, f_X4_goes_r, f_X4_goes_mtw, vp_updL, keyp03, keyp04, e1, ri, hI1]
    by_cases k1 : p1 = 1
    · subst k1
      have ri : f_X4_in_r 1 0 2 = 1 := by decide
      simp [f_X3_keyOf_r, f_X3_keyOf_k, f_X4_keyOf_r, f_X4_keyOf_mtw, f_L_keyOf_r, f_L_keyOf_oo, f_X4_goes_r, f_X4_goes_mtw, vp_updL, keyp03, keyp04, e1, ri, hI1]
    by_cases k2 : p1 = 2
    · subst k2
      have ri : f_X4_in_r 2 0 2 = 1 := by decide
      simp [f_X3_keyOf_r, f_X3_keyOf_k, f_X4_keyOf_r, f_X4_keyOf_mtw, f_L_keyOf_r, f_L_keyOf_oo, f_X4_goes_r, f_X4_goes_mtw, vp_updL, keyp03, keyp04, e1, ri, hI1]
    have ri : f_X4_in_r p1 0 2 = 0 := in_02 k0 k1 k2
    simp [f_X3_keyOf_r, f_X3_keyOf_k, f_X4_keyOf_r, f_X4_keyOf_mtw, f_L_keyOf_r, f_L_keyOf_oo, f_X4_goes_r, f_X4_goes_mtw, vp_updL, keyp03, keyp04, k0, k1, k2, ri, hI1]
theorem host_eq {N : Nat} {bY ho ro we wi ba th tr tm tb td : Nat → Int32} (hR : tieR N bY ho ro we wi ba th tr tm tb td) (hN : N ≤ 100) {x : Int32} (hx : vp_in x 12) : f_X2_hostOf_r th x = if bY x.toNatClampNeg = -1 then -1 else ho (bY x.toNatClampNeg).toNatClampNeg := by
  unfold f_X2_hostOf_r
  rcases tie_case hR hN hx with ⟨e1, e2, e3⟩ | ⟨e1, e2, e3, e4, e5, e6⟩
  · rw [if_pos e1, e2]
  · rw [if_neg e1, e3]
set_option maxHeartbeats 4000000 in
theorem s_of {n : Nat} {mmi : Int32} {mfa : Nat → Int32} {men : Nat → Int32} {mbY : Nat → Int32} {mbg : Nat → Int32} {mlo : Nat → Int32} {mnb : Int32} {mvo : Int32} {mho : Nat → Int32} {mro : Nat → Int32} {mwe : Nat → Int32} {mwi : Nat → Int32} {mba : Nat → Int32} {msg : Nat → Int32} {th : Nat → Int32} {tr : Nat → Int32} {tm : Nat → Int32} {tb : Nat → Int32} {td : Nat → Int32} {lk : Nat → Int32} {lp : Nat → Int32} {lg : Nat → Int32} {lm : Nat → Int32} {ls : Int32} {oo : Nat → Int64} {p0 : Int32} {p1 : Int32} (hn : n < 512) (hI : Inv (n) th tr tm tb td lk lp lg lm ls mfa mbY mbg mlo mnb mvo mho mro mwe mwi mba msg) : (f_L_of_r p0 p1) = (f_X4_of_mtw p0 p1) ∧ ((f_L_of_r p0 p1) = 0 → (f_L_of_oo mmi mfa men th tr td mbg mlo oo p0 p1) 0 = (f_X4_of_r mmi mfa men mbY mbg mlo mho mro mba p0 p1).toInt64) ∧ Inv (n + 1) th tr tm tb td lk lp lg lm ls mfa mbY mbg mlo mnb mvo mho mro mwe mwi mba msg := by
  have hI1 := inv_succ hI
  have hI0 := hI
  obtain ⟨hfa, ⟨N, hN, hvo, hR, hb0⟩, hho, hba, hlo, ⟨B, hnb, hB⟩, hbg, ⟨L, hls, hL, hev, hrp⟩, hsg⟩ := hI
  rcases per_cs p0 with ⟨perp03, perp04⟩ | ⟨perp03, perp04⟩
  · simp [f_X3_of_r, f_X3_of_k, f_X4_of_r, f_X4_of_mtw, f_L_of_r, f_L_of_oo, f_X4_goes_r, f_X4_goes_mtw, vp_updL, perp03, perp04, hI1]
  · have perp0n : ¬ f_X3_isPerson_r p0 = 0 := by rw [perp03]; decide
    have pin := per_in perp0n
    have e1 := rooms_eq hR hN pin
    have e2 := taint_eq hR hN hlo pin
    have e3 := trust_eq hR hN pin
    have e4 : f_X2_hostOf_r th p0 = if mbY p0.toNatClampNeg = -1 then -1 else mho (mbY p0.toNatClampNeg).toNatClampNeg := host_eq hR hN pin
    by_cases k0 : p1 = 0
    · subst k0
      have ri : f_X4_in_r 0 0 7 = 1 := by decide
      by_cases ins : f_X0_isInSession_r men p0 mmi = 0 <;> simp [f_X3_of_r, f_X3_of_k, f_X4_of_r, f_X4_of_mtw, f_L_of_r, f_L_of_oo, f_X4_goes_r, f_X4_goes_mtw, vp_updL, ins, perp03, perp04, e1, e2, e3, e4, ri, hI1, f_X4_told_r, f_X3_asNumber_r, isIn_eq, f_X0_failuresOf_r, f_X0_sessionEndOf_r, f_X2_badgeOf_r]
    by_cases k1 : p1 = 1
    · subst k1
      have ri : f_X4_in_r 1 0 7 = 1 := by decide
      simp [f_X3_of_r, f_X3_of_k, f_X4_of_r, f_X4_of_mtw, f_L_of_r, f_L_of_oo, f_X4_goes_r, f_X4_goes_mtw, vp_updL, perp03, perp04, e1, e2, e3, e4, ri, hI1, f_X4_told_r, f_X3_asNumber_r, isIn_eq, f_X0_failuresOf_r, f_X0_sessionEndOf_r, f_X2_badgeOf_r]
    by_cases k2 : p1 = 2
    · subst k2
      have ri : f_X4_in_r 2 0 7 = 1 := by decide
      simp [f_X3_of_r, f_X3_of_k, f_X4_of_r, f_X4_of_mtw, f_L_of_r, f_L_of_oo, f_X4_goes_r, f_X4_goes_mtw, vp_updL, perp03, perp04, e1, e2, e3, e4, ri, hI1, f_X4_told_r, f_X3_asNumber_r, isIn_eq, f_X0_failuresOf_r, f_X0_sessionEndOf_r, f_X2_badgeOf_r]
    by_cases k3 : p1 = 3
    · subst k3
      have ri : f_X4_in_r 3 0 7 = 1 := by decide
      simp [f_X3_of_r, f_X3_of_k, f_X4_of_r, f_X4_of_mtw, f_L_of_r, f_L_of_oo, f_X4_goes_r, f_X4_goes_mtw, vp_updL, perp03, perp04, e1, e2, e3, e4, ri, hI1, f_X4_told_r, f_X3_asNumber_r, isIn_eq, f_X0_failuresOf_r, f_X0_sessionEndOf_r, f_X2_badgeOf_r]
    by_cases k4 : p1 = 4
    · subst k4
      have ri : f_X4_in_r 4 0 7 = 1 := by decide
      simp [f_X3_of_r, f_X3_of_k, f_X4_of_r, f_X4_of_mtw, f_L_of_r, f_L_of_oo, f_X4_goes_r, f_X4_goes_mtw, vp_updL, perp03, perp04, e1, e2, e3, e4, ri, hI1, f_X4_told_r, f_X3_asNumber_r, isIn_eq, f_X0_failuresOf_r, f_X0_sessionEndOf_r, f_X2_badgeOf_r]
    by_cases k5 : p1 = 5
    · subst k5
      have ri : f_X4_in_r 5 0 7 = 1 := by decide
      simp [f_X3_of_r, f_X3_of_k, f_X4_of_r, f_X4_of_mtw, f_L_of_r, f_L_of_oo, f_X4_goes_r, f_X4_goes_mtw, vp_updL, perp03, perp04, e1, e2, e3, e4, ri, hI1, f_X4_told_r, f_X3_asNumber_r, isIn_eq, f_X0_failuresOf_r, f_X0_sessionEndOf_r, f_X2_badgeOf_r]
    by_cases k6 : p1 = 6
    · subst k6
      have ri : f_X4_in_r 6 0 7 = 1 := by decide
      by_cases ins : f_X0_isInSession_r men p0 mmi = 0 <;> simp [f_X3_of_r, f_X3_of_k, f_X4_of_r, f_X4_of_mtw, f_L_of_r, f_L_of_oo, f_X4_goes_r, f_X4_goes_mtw, vp_updL, ins, perp03, perp04, e1, e2, e3, e4, ri, hI1, f_X4_told_r, f_X3_asNumber_r, isIn_eq, f_X0_failuresOf_r, f_X0_sessionEndOf_r, f_X2_badgeOf_r]
    by_cases k7 : p1 = 7
    · subst k7
      have ri : f_X4_in_r 7 0 7 = 1 := by decide
      simp [f_X3_of_r, f_X3_of_k, f_X4_of_r, f_X4_of_mtw, f_L_of_r, f_L_of_oo, f_X4_goes_r, f_X4_goes_mtw, vp_updL, perp03, perp04, e1, e2, e3, e4, ri, hI1, f_X4_told_r, f_X3_asNumber_r, isIn_eq, f_X0_failuresOf_r, f_X0_sessionEndOf_r, f_X2_badgeOf_r]
    have ri : f_X4_in_r p1 0 7 = 0 := in_07 k0 k1 k2 k3 k4 k5 k6 k7
    simp [f_X3_of_r, f_X3_of_k, f_X4_of_r, f_X4_of_mtw, f_L_of_r, f_L_of_oo, f_X4_goes_r, f_X4_goes_mtw, vp_updL, perp03, perp04, k0, k1, k2, k3, k4, k5, k6, k7, ri, hI1]
set_option maxHeartbeats 4000000 in
theorem s_ending {n : Nat} {mmi : Int32} {mfa : Nat → Int32} {men : Nat → Int32} {mbY : Nat → Int32} {mbg : Nat → Int32} {mlo : Nat → Int32} {mnb : Int32} {mvo : Int32} {mho : Nat → Int32} {mro : Nat → Int32} {mwe : Nat → Int32} {mwi : Nat → Int32} {mba : Nat → Int32} {msg : Nat → Int32} {th : Nat → Int32} {tr : Nat → Int32} {tm : Nat → Int32} {tb : Nat → Int32} {td : Nat → Int32} {lk : Nat → Int32} {lp : Nat → Int32} {lg : Nat → Int32} {lm : Nat → Int32} {ls : Int32} {oo : Nat → Int64} {p0 : Int32} (hn : n < 512) (hI : Inv (n) th tr tm tb td lk lp lg lm ls mfa mbY mbg mlo mnb mvo mho mro mwe mwi mba msg) : (f_L_ending_r mmi men p0) = (f_X4_ending_mtw p0) ∧ ((f_L_ending_r mmi men p0) = 0 → (f_L_ending_oo mmi men oo p0) 0 = (f_X4_ending_r mmi men p0).toInt64) ∧ Inv (n + 1) th tr tm tb td lk lp lg lm ls mfa mbY mbg mlo mnb mvo mho mro mwe mwi mba msg := by
  have hI1 := inv_succ hI
  have hI0 := hI
  obtain ⟨hfa, ⟨N, hN, hvo, hR, hb0⟩, hho, hba, hlo, ⟨B, hnb, hB⟩, hbg, ⟨L, hls, hL, hev, hrp⟩, hsg⟩ := hI
  by_cases c0 : p0 < 0
  · skip
    have c1 : ¬ 0 ≤ p0 := Int32.not_le.mpr c0
    simp [f_X3_ending_r, f_X3_ending_k, f_X4_ending_r, f_X4_ending_mtw, f_L_ending_r, f_L_ending_oo, f_X4_goes_r, f_X4_goes_mtw, vp_updL, ending_eq, nok_ending, c0, c1, hI1]
  · skip
    have c1 : 0 ≤ p0 := Int32.not_lt.mp c0
    simp [f_X3_ending_r, f_X3_ending_k, f_X4_ending_r, f_X4_ending_mtw, f_L_ending_r, f_L_ending_oo, f_X4_goes_r, f_X4_goes_mtw, vp_updL, ending_eq, nok_ending, c0, c1, hI1]
theorem lt_1 {x : Int32} (h : x < 0) : x < 1 := by
  rw [Int32.lt_iff_toInt_lt] at h ⊢
  have e1 : (0 : Int32).toInt = 0 := by decide
  have e2 : (1 : Int32).toInt = 1 := by decide
  omega
set_option maxHeartbeats 4000000 in
theorem s_share {n : Nat} {mfa : Nat → Int32} {mbY : Nat → Int32} {mbg : Nat → Int32} {mlo : Nat → Int32} {mnb : Int32} {mvo : Int32} {mho : Nat → Int32} {mro : Nat → Int32} {mwe : Nat → Int32} {mwi : Nat → Int32} {mba : Nat → Int32} {mkp : Nat → Int32} {mth : Nat → Int32} {msg : Nat → Int32} {th : Nat → Int32} {tr : Nat → Int32} {tm : Nat → Int32} {tb : Nat → Int32} {td : Nat → Int32} {lk : Nat → Int32} {lp : Nat → Int32} {lg : Nat → Int32} {lm : Nat → Int32} {ls : Int32} {oo : Nat → Int64} {p0 : Int32} {p1 : Int32} {p2 : Int32} (hn : n < 512) (hI : Inv (n) th tr tm tb td lk lp lg lm ls mfa mbY mbg mlo mnb mvo mho mro mwe mwi mba msg) : (f_L_share_r p0 p1 p2) = (f_X4_share_mtw p0 p1 p2) ∧ (f_L_share_kk mkp p0 p1 p2) = (f_X4_share_mkp mkp p0 p1 p2) ∧ (f_L_share_kt mth p0 p1 p2) = (f_X4_share_mth mth p0 p1 p2) ∧ ((f_L_share_r p0 p1 p2) = 0 → (f_L_share_oo mth oo p0 p1 p2) 0 = (f_X4_share_r mth p0 p1 p2).toInt64) ∧ Inv (n + 1) th tr tm tb td lk lp lg lm ls mfa mbY mbg mlo mnb mvo mho mro mwe mwi mba msg := by
  have hI1 := inv_succ hI
  have hI0 := hI
  obtain ⟨hfa, ⟨N, hN, hvo, hR, hb0⟩, hho, hba, hlo, ⟨B, hnb, hB⟩, hbg, ⟨L, hls, hL, hev, hrp⟩, hsg⟩ := hI
  rcases key_cs p0 with ⟨keyp03, keyp04⟩ | ⟨keyp03, keyp04⟩
  · simp [f_X3_share_r, f_X3_share_k, f_X3_share_kk, f_X3_share_kt, f_X4_share_r, f_X4_share_mkp, f_X4_share_mth, f_X4_share_mtw, f_L_share_r, f_L_share_kk, f_L_share_kt, f_L_share_oo, f_X4_goes_r, f_X4_goes_mtw, vp_updL, keyp03, keyp04, hI1]
  · have keyp0n : ¬ f_X3_isKey_r p0 = 0 := by rw [keyp03]; decide
    by_cases rp1a : p1 < 1
    · have rp1i := in_lo (b := 4095) rp1a
      simp [f_X3_share_r, f_X3_share_k, f_X3_share_kk, f_X3_share_kt, f_X4_share_r, f_X4_share_mkp, f_X4_share_mth, f_X4_share_mtw, f_L_share_r, f_L_share_kk, f_L_share_kt, f_L_share_oo, f_X4_goes_r, f_X4_goes_mtw, vp_updL, keyp03, keyp04, rp1a, rp1i, hI1]
    · by_cases rp1b : 4095 < p1
      · have rp1i := in_hi (a := 1) rp1b
        have rp1c := Int32.not_le.mpr rp1b
        simp [f_X3_share_r, f_X3_share_k, f_X3_share_kk, f_X3_share_kt, f_X4_share_r, f_X4_share_mkp, f_X4_share_mth, f_X4_share_mtw, f_L_share_r, f_L_share_kk, f_L_share_kt, f_L_share_oo, f_X4_goes_r, f_X4_goes_mtw, vp_updL, keyp03, keyp04, rp1a, rp1b, rp1c, rp1i, hI1]
      · have rp1i := in_ok rp1a rp1b
        have rp1c := Int32.not_lt.mp rp1b
        have e1 : f_X4_ones_r p1 = f_J6_bitCount_0f7a4_r p1 := by obtain ⟨j, hj, rfl⟩ := nI_of2 (M := 4095) (n := 4095) (by decide) (fun z => rp1a (lt_1 z)) rp1c; exact ones_eq j (by omega)
        by_cases rp2a : p2 < 1
        · have rp2i := in_lo (b := (f_J6_bitCount_0f7a4_r p1)) rp2a
          simp [f_X3_share_r, f_X3_share_k, f_X3_share_kk, f_X3_share_kt, f_X4_share_r, f_X4_share_mkp, f_X4_share_mth, f_X4_share_mtw, f_L_share_r, f_L_share_kk, f_L_share_kt, f_L_share_oo, f_X4_goes_r, f_X4_goes_mtw, vp_updL, keyp03, keyp04, rp1a, rp1b, rp1c, rp1i, e1, rp2a, rp2i, hI1]
        · by_cases rp2b : (f_J6_bitCount_0f7a4_r p1) < p2
          · have rp2i := in_hi (a := 1) rp2b
            have rp2c := Int32.not_le.mpr rp2b
            simp [f_X3_share_r, f_X3_share_k, f_X3_share_kk, f_X3_share_kt, f_X4_share_r, f_X4_share_mkp, f_X4_share_mth, f_X4_share_mtw, f_L_share_r, f_L_share_kk, f_L_share_kt, f_L_share_oo, f_X4_goes_r, f_X4_goes_mtw, vp_updL, keyp03, keyp04, rp1a, rp1b, rp1c, rp1i, e1, rp2a, rp2b, rp2c, rp2i, hI1]
          · have rp2i := in_ok rp2a rp2b
            have rp2c := Int32.not_lt.mp rp2b
            simp [f_X3_share_r, f_X3_share_k, f_X3_share_kk, f_X3_share_kt, f_X4_share_r, f_X4_share_mkp, f_X4_share_mth, f_X4_share_mtw, f_L_share_r, f_L_share_kk, f_L_share_kt, f_L_share_oo, f_X4_goes_r, f_X4_goes_mtw, vp_updL, keyp03, keyp04, rp1a, rp1b, rp1c, rp1i, e1, rp2a, rp2b, rp2c, rp2i, hI1]
set_option maxHeartbeats 4000000 in
theorem s_vouch {n : Nat} {mmi : Int32} {mfa : Nat → Int32} {men : Nat → Int32} {mbY : Nat → Int32} {mbg : Nat → Int32} {mlo : Nat → Int32} {mnb : Int32} {mvo : Int32} {mho : Nat → Int32} {mro : Nat → Int32} {mwe : Nat → Int32} {mwi : Nat → Int32} {mba : Nat → Int32} {msg : Nat → Int32} {th : Nat → Int32} {tr : Nat → Int32} {tm : Nat → Int32} {tb : Nat → Int32} {td : Nat → Int32} {lk : Nat → Int32} {lp : Nat → Int32} {lg : Nat → Int32} {lm : Nat → Int32} {ls : Int32} {oo : Nat → Int64} {p0 : Int32} {p1 : Int32} {p2 : Int32} (hn : n < 512) (hI : Inv (n) th tr tm tb td lk lp lg lm ls mfa mbY mbg mlo mnb mvo mho mro mwe mwi mba msg) : (f_L_vouch_r mmi men th td mlo mvo p0 p1 p2) = (f_X4_vouch_mtw mmi men mbY mlo mvo mho mba p0 p1 p2) ∧ (f_L_vouch_lv mmi men th td mlo mvo p0 p1 p2) = (f_X4_vouch_mvo mmi men mbY mlo mvo mho mba p0 p1 p2) ∧ ((f_L_vouch_r mmi men th td mlo mvo p0 p1 p2) = 0 → (f_L_vouch_oo mmi men th td mlo mvo oo p0 p1 p2) 0 = (f_X4_vouch_r mmi men mbY mlo mvo mho mba p0 p1 p2).toInt64) ∧ Inv (n + 1) (f_L_vouch_th mmi men th td mlo mvo p0 p1 p2) (f_L_vouch_tr mmi men th tr td mlo mvo p0 p1 p2) (f_L_vouch_tm mmi men th tm td mlo mvo p0 p1 p2) (f_L_vouch_tb mmi men th tb td mbg mlo mvo p0 p1 p2) (f_L_vouch_td mmi men th td mlo mvo p0 p1 p2) (f_L_vouch_lk mmi men th td mlo lk ls mvo p0 p1 p2) (f_L_vouch_lp mmi men th td mlo lp ls mvo p0 p1 p2) (f_L_vouch_lg mmi men th td mlo lg ls mvo p0 p1 p2) (f_L_vouch_lm mmi men th td mlo lm ls mvo p0 p1 p2) (f_L_vouch_ls mmi men th td mlo ls mvo p0 p1 p2) mfa (f_X4_vouch_mbY mmi men mbY mlo mvo mho mba p0 p1 p2) mbg mlo mnb (f_X4_vouch_mvo mmi men mbY mlo mvo mho mba p0 p1 p2) (f_X4_vouch_mho mmi men mbY mlo mvo mho mba p0 p1 p2) (f_X4_vouch_mro mmi men mbY mlo mvo mho mro mba p0 p1 p2) (f_X4_vouch_mwe mmi men mbY mlo mvo mho mwe mba p0 p1 p2) (f_X4_vouch_mwi mmi men mbY mbg mlo mvo mho mwi mba p0 p1 p2) mba msg := by
  have hI1 := inv_succ hI
  have hI0 := hI
  obtain ⟨hfa, ⟨N, hN, hvo, hR, hb0⟩, hho, hba, hlo, ⟨B, hnb, hB⟩, hbg, ⟨L, hls, hL, hev, hrp⟩, hsg⟩ := hI
  rcases per_cs p0 with ⟨perp03, perp04⟩ | ⟨perp03, perp04⟩
  · simp [f_X3_vouch_r, f_X3_vouch_k, f_X3_vouch_th, f_X3_vouch_tr, f_X3_vouch_tm, f_X3_vouch_tb, f_X3_vouch_td, f_X3_vouch_lk, f_X3_vouch_lp, f_X3_vouch_lg, f_X3_vouch_lm, f_X3_vouch_ls, f_X3_vouch_lv, f_X4_vouch_r, f_X4_vouch_mbY, f_X4_vouch_mvo, f_X4_vouch_mho, f_X4_vouch_mro, f_X4_vouch_mwe, f_X4_vouch_mwi, f_X4_vouch_mtw, f_L_vouch_r, f_L_vouch_th, f_L_vouch_tr, f_L_vouch_tm, f_L_vouch_tb, f_L_vouch_td, f_L_vouch_lk, f_L_vouch_lp, f_L_vouch_lg, f_L_vouch_lm, f_L_vouch_ls, f_L_vouch_lv, f_L_vouch_oo, f_X4_goes_r, f_X4_goes_mtw, vp_updL, f_X1_countVouchings_r, f_X1_addVouching_lv, f_X2_tie_th, f_X2_tie_tm, f_X2_tie_tb, f_X2_tie_td, f_X2_setRooms_tr, f_X1_addVouching_lk, f_X1_addVouching_lp, f_X1_addVouching_lg, f_X1_addVouching_lm, f_X1_addVouching_ls, f_X1_add_lk, f_X1_add_lp, f_X1_add_lg, f_X1_add_lm, f_X1_add_ls, perp03, perp04, hI1]
  · have perp0n : ¬ f_X3_isPerson_r p0 = 0 := by rw [perp03]; decide
    have pin := per_in perp0n
    rcases gst_cs p1 with ⟨gstp13, gstp14⟩ | ⟨gstp13, gstp14, gstp1c⟩
    · simp [f_X3_vouch_r, f_X3_vouch_k, f_X3_vouch_th, f_X3_vouch_tr, f_X3_vouch_tm, f_X3_vouch_tb, f_X3_vouch_td, f_X3_vouch_lk, f_X3_vouch_lp, f_X3_vouch_lg, f_X3_vouch_lm, f_X3_vouch_ls, f_X3_vouch_lv, f_X4_vouch_r, f_X4_vouch_mbY, f_X4_vouch_mvo, f_X4_vouch_mho, f_X4_vouch_mro, f_X4_vouch_mwe, f_X4_vouch_mwi, f_X4_vouch_mtw, f_L_vouch_r, f_L_vouch_th, f_L_vouch_tr, f_L_vouch_tm, f_L_vouch_tb, f_L_vouch_td, f_L_vouch_lk, f_L_vouch_lp, f_L_vouch_lg, f_L_vouch_lm, f_L_vouch_ls, f_L_vouch_lv, f_L_vouch_oo, f_X4_goes_r, f_X4_goes_mtw, vp_updL, f_X1_countVouchings_r, f_X1_addVouching_lv, f_X2_tie_th, f_X2_tie_tm, f_X2_tie_tb, f_X2_tie_td, f_X2_setRooms_tr, f_X1_addVouching_lk, f_X1_addVouching_lp, f_X1_addVouching_lg, f_X1_addVouching_lm, f_X1_addVouching_ls, f_X1_add_lk, f_X1_add_lp, f_X1_add_lg, f_X1_add_lm, f_X1_add_ls, perp03, perp04, gstp13, gstp14, hI1]
    · have gstp1n : ¬ f_X3_isGuest_r p1 = 0 := by rw [gstp13]; decide
      by_cases cpp : p0 = p1
      · skip
        subst cpp
        simp [f_X3_vouch_r, f_X3_vouch_k, f_X3_vouch_th, f_X3_vouch_tr, f_X3_vouch_tm, f_X3_vouch_tb, f_X3_vouch_td, f_X3_vouch_lk, f_X3_vouch_lp, f_X3_vouch_lg, f_X3_vouch_lm, f_X3_vouch_ls, f_X3_vouch_lv, f_X4_vouch_r, f_X4_vouch_mbY, f_X4_vouch_mvo, f_X4_vouch_mho, f_X4_vouch_mro, f_X4_vouch_mwe, f_X4_vouch_mwi, f_X4_vouch_mtw, f_L_vouch_r, f_L_vouch_th, f_L_vouch_tr, f_L_vouch_tm, f_L_vouch_tb, f_L_vouch_td, f_L_vouch_lk, f_L_vouch_lp, f_L_vouch_lg, f_L_vouch_lm, f_L_vouch_ls, f_L_vouch_lv, f_L_vouch_oo, f_X4_goes_r, f_X4_goes_mtw, vp_updL, f_X1_countVouchings_r, f_X1_addVouching_lv, f_X2_tie_th, f_X2_tie_tm, f_X2_tie_tb, f_X2_tie_td, f_X2_setRooms_tr, f_X1_addVouching_lk, f_X1_addVouching_lp, f_X1_addVouching_lg, f_X1_addVouching_lm, f_X1_addVouching_ls, f_X1_add_lk, f_X1_add_lp, f_X1_add_lg, f_X1_add_lm, f_X1_add_ls, perp03, perp04, gstp13, gstp14, hI1]
      · skip
        by_cases rp2a : p2 < 1
        · have rp2i := in_lo (b := 63) rp2a
          simp [f_X3_vouch_r, f_X3_vouch_k, f_X3_vouch_th, f_X3_vouch_tr, f_X3_vouch_tm, f_X3_vouch_tb, f_X3_vouch_td, f_X3_vouch_lk, f_X3_vouch_lp, f_X3_vouch_lg, f_X3_vouch_lm, f_X3_vouch_ls, f_X3_vouch_lv, f_X4_vouch_r, f_X4_vouch_mbY, f_X4_vouch_mvo, f_X4_vouch_mho, f_X4_vouch_mro, f_X4_vouch_mwe, f_X4_vouch_mwi, f_X4_vouch_mtw, f_L_vouch_r, f_L_vouch_th, f_L_vouch_tr, f_L_vouch_tm, f_L_vouch_tb, f_L_vouch_td, f_L_vouch_lk, f_L_vouch_lp, f_L_vouch_lg, f_L_vouch_lm, f_L_vouch_ls, f_L_vouch_lv, f_L_vouch_oo, f_X4_goes_r, f_X4_goes_mtw, vp_updL, f_X1_countVouchings_r, f_X1_addVouching_lv, f_X2_tie_th, f_X2_tie_tm, f_X2_tie_tb, f_X2_tie_td, f_X2_setRooms_tr, f_X1_addVouching_lk, f_X1_addVouching_lp, f_X1_addVouching_lg, f_X1_addVouching_lm, f_X1_addVouching_ls, f_X1_add_lk, f_X1_add_lp, f_X1_add_lg, f_X1_add_lm, f_X1_add_ls, perp03, perp04, gstp13, gstp14, cpp, rp2a, rp2i, hI1]
        · by_cases rp2b : 63 < p2
          · have rp2i := in_hi (a := 1) rp2b
            have rp2c := Int32.not_le.mpr rp2b
            simp [f_X3_vouch_r, f_X3_vouch_k, f_X3_vouch_th, f_X3_vouch_tr, f_X3_vouch_tm, f_X3_vouch_tb, f_X3_vouch_td, f_X3_vouch_lk, f_X3_vouch_lp, f_X3_vouch_lg, f_X3_vouch_lm, f_X3_vouch_ls, f_X3_vouch_lv, f_X4_vouch_r, f_X4_vouch_mbY, f_X4_vouch_mvo, f_X4_vouch_mho, f_X4_vouch_mro, f_X4_vouch_mwe, f_X4_vouch_mwi, f_X4_vouch_mtw, f_L_vouch_r, f_L_vouch_th, f_L_vouch_tr, f_L_vouch_tm, f_L_vouch_tb, f_L_vouch_td, f_L_vouch_lk, f_L_vouch_lp, f_L_vouch_lg, f_L_vouch_lm, f_L_vouch_ls, f_L_vouch_lv, f_L_vouch_oo, f_X4_goes_r, f_X4_goes_mtw, vp_updL, f_X1_countVouchings_r, f_X1_addVouching_lv, f_X2_tie_th, f_X2_tie_tm, f_X2_tie_tb, f_X2_tie_td, f_X2_setRooms_tr, f_X1_addVouching_lk, f_X1_addVouching_lp, f_X1_addVouching_lg, f_X1_addVouching_lm, f_X1_addVouching_ls, f_X1_add_lk, f_X1_add_lp, f_X1_add_lg, f_X1_add_lm, f_X1_add_ls, perp03, perp04, gstp13, gstp14, cpp, rp2a, rp2b, rp2c, rp2i, hI1]
          · have rp2i := in_ok rp2a rp2b
            have rp2c := Int32.not_lt.mp rp2b
            have ce : f_X4_canVouch_r mmi men mbY mlo mho mba p0 = f_X3_mayAct_r mmi men th td mlo p0 := can_eq hR hN hlo mmi men pin
            by_cases may : f_X3_mayAct_r mmi men th td mlo p0 = 0
            · skip
              simp [f_X3_vouch_r, f_X3_vouch_k, f_X3_vouch_th, f_X3_vouch_tr, f_X3_vouch_tm, f_X3_vouch_tb, f_X3_vouch_td, f_X3_vouch_lk, f_X3_vouch_lp, f_X3_vouch_lg, f_X3_vouch_lm, f_X3_vouch_ls, f_X3_vouch_lv, f_X4_vouch_r, f_X4_vouch_mbY, f_X4_vouch_mvo, f_X4_vouch_mho, f_X4_vouch_mro, f_X4_vouch_mwe, f_X4_vouch_mwi, f_X4_vouch_mtw, f_L_vouch_r, f_L_vouch_th, f_L_vouch_tr, f_L_vouch_tm, f_L_vouch_tb, f_L_vouch_td, f_L_vouch_lk, f_L_vouch_lp, f_L_vouch_lg, f_L_vouch_lm, f_L_vouch_ls, f_L_vouch_lv, f_L_vouch_oo, f_X4_goes_r, f_X4_goes_mtw, vp_updL, f_X1_countVouchings_r, f_X1_addVouching_lv, f_X2_tie_th, f_X2_tie_tm, f_X2_tie_tb, f_X2_tie_td, f_X2_setRooms_tr, f_X1_addVouching_lk, f_X1_addVouching_lp, f_X1_addVouching_lg, f_X1_addVouching_lm, f_X1_addVouching_ls, f_X1_add_lk, f_X1_add_lp, f_X1_add_lg, f_X1_add_lm, f_X1_add_ls, perp03, perp04, gstp13, gstp14, cpp, rp2a, rp2b, rp2c, rp2i, ce, may, hI1]
            · skip
              by_cases hv : mvo < 100
              · skip
                have hv2 : ¬ 100 ≤ mvo := Int32.not_le.mpr hv
                have hls2 : ls < 512 := by rw [hls]; exact (nI_ltI (a := L) (b := 512) (by omega) (by decide)).mpr (by omega)
                have hV := inv_vouch hI0 hn pin (gst_in gstp1n) gstp1c hv p2 mmi
                simp [f_X3_vouch_r, f_X3_vouch_k, f_X3_vouch_th, f_X3_vouch_tr, f_X3_vouch_tm, f_X3_vouch_tb, f_X3_vouch_td, f_X3_vouch_lk, f_X3_vouch_lp, f_X3_vouch_lg, f_X3_vouch_lm, f_X3_vouch_ls, f_X3_vouch_lv, f_X4_vouch_r, f_X4_vouch_mbY, f_X4_vouch_mvo, f_X4_vouch_mho, f_X4_vouch_mro, f_X4_vouch_mwe, f_X4_vouch_mwi, f_X4_vouch_mtw, f_L_vouch_r, f_L_vouch_th, f_L_vouch_tr, f_L_vouch_tm, f_L_vouch_tb, f_L_vouch_td, f_L_vouch_lk, f_L_vouch_lp, f_L_vouch_lg, f_L_vouch_lm, f_L_vouch_ls, f_L_vouch_lv, f_L_vouch_oo, f_X4_goes_r, f_X4_goes_mtw, vp_updL, f_X1_countVouchings_r, f_X1_addVouching_lv, f_X2_tie_th, f_X2_tie_tm, f_X2_tie_tb, f_X2_tie_td, f_X2_setRooms_tr, f_X1_addVouching_lk, f_X1_addVouching_lp, f_X1_addVouching_lg, f_X1_addVouching_lm, f_X1_addVouching_ls, f_X1_add_lk, f_X1_add_lp, f_X1_add_lg, f_X1_add_lm, f_X1_add_ls, perp03, perp04, gstp13, gstp14, cpp, rp2a, rp2b, rp2c, rp2i, ce, may, hv, hv2, hls2, hV]
              · skip
                have hv2 : 100 ≤ mvo := Int32.not_lt.mp hv
                simp [f_X3_vouch_r, f_X3_vouch_k, f_X3_vouch_th, f_X3_vouch_tr, f_X3_vouch_tm, f_X3_vouch_tb, f_X3_vouch_td, f_X3_vouch_lk, f_X3_vouch_lp, f_X3_vouch_lg, f_X3_vouch_lm, f_X3_vouch_ls, f_X3_vouch_lv, f_X4_vouch_r, f_X4_vouch_mbY, f_X4_vouch_mvo, f_X4_vouch_mho, f_X4_vouch_mro, f_X4_vouch_mwe, f_X4_vouch_mwi, f_X4_vouch_mtw, f_L_vouch_r, f_L_vouch_th, f_L_vouch_tr, f_L_vouch_tm, f_L_vouch_tb, f_L_vouch_td, f_L_vouch_lk, f_L_vouch_lp, f_L_vouch_lg, f_L_vouch_lm, f_L_vouch_ls, f_L_vouch_lv, f_L_vouch_oo, f_X4_goes_r, f_X4_goes_mtw, vp_updL, f_X1_countVouchings_r, f_X1_addVouching_lv, f_X2_tie_th, f_X2_tie_tm, f_X2_tie_tb, f_X2_tie_td, f_X2_setRooms_tr, f_X1_addVouching_lk, f_X1_addVouching_lp, f_X1_addVouching_lg, f_X1_addVouching_lm, f_X1_addVouching_ls, f_X1_add_lk, f_X1_add_lp, f_X1_add_lg, f_X1_add_lm, f_X1_add_ls, perp03, perp04, gstp13, gstp14, cpp, rp2a, rp2b, rp2c, rp2i, ce, may, hv, hv2, hI1]
set_option maxHeartbeats 4000000 in
theorem s_end {n : Nat} {mfa : Nat → Int32} {mbY : Nat → Int32} {mbg : Nat → Int32} {mlo : Nat → Int32} {mnb : Int32} {mvo : Int32} {mho : Nat → Int32} {mro : Nat → Int32} {mwe : Nat → Int32} {mwi : Nat → Int32} {mba : Nat → Int32} {msg : Nat → Int32} {th : Nat → Int32} {tr : Nat → Int32} {tm : Nat → Int32} {tb : Nat → Int32} {td : Nat → Int32} {lk : Nat → Int32} {lp : Nat → Int32} {lg : Nat → Int32} {lm : Nat → Int32} {ls : Int32} {oo : Nat → Int64} {p0 : Int32} (hn : n < 512) (hI : Inv (n) th tr tm tb td lk lp lg lm ls mfa mbY mbg mlo mnb mvo mho mro mwe mwi mba msg) : (f_L_end_r th p0) = (f_X4_end_mtw mbY p0) ∧ ((f_L_end_r th p0) = 0 → (f_L_end_oo th oo p0) 0 = (f_X4_end_r mbY mho p0).toInt64) ∧ Inv (n + 1) (f_L_end_th th p0) tr tm tb (f_L_end_td th td p0) (f_L_end_lk th lk ls p0) (f_L_end_lp th lp ls p0) (f_L_end_lg th lg ls p0) (f_L_end_lm th lm ls p0) (f_L_end_ls th ls p0) mfa (f_X4_end_mbY mbY p0) mbg mlo mnb mvo mho mro mwe mwi mba msg := by
  have hI1 := inv_succ hI
  have hI0 := hI
  obtain ⟨hfa, ⟨N, hN, hvo, hR, hb0⟩, hho, hba, hlo, ⟨B, hnb, hB⟩, hbg, ⟨L, hls, hL, hev, hrp⟩, hsg⟩ := hI
  rcases gst_cs p0 with ⟨gstp03, gstp04⟩ | ⟨gstp03, gstp04, gstp0c⟩
  · simp [f_X3_end_r, f_X3_end_k, f_X3_end_th, f_X3_end_td, f_X3_end_lk, f_X3_end_lp, f_X3_end_lg, f_X3_end_lm, f_X3_end_ls, f_X4_end_r, f_X4_end_mbY, f_X4_end_mtw, f_L_end_r, f_L_end_th, f_L_end_td, f_L_end_lk, f_L_end_lp, f_L_end_lg, f_L_end_lm, f_L_end_ls, f_L_end_oo, f_X4_goes_r, f_X4_goes_mtw, vp_updL, f_X2_hostOf_r, f_X2_untie_th, f_X2_untie_td, f_X1_addEnding_lk, f_X1_addEnding_lp, f_X1_addEnding_lg, f_X1_addEnding_lm, f_X1_addEnding_ls, f_X1_add_lk, f_X1_add_lp, f_X1_add_lg, f_X1_add_lm, f_X1_add_ls, gstp03, gstp04, hI1]
  · have gstp0n : ¬ f_X3_isGuest_r p0 = 0 := by rw [gstp03]; decide
    have gin := gst_in gstp0n
    rcases tie_case hR hN gin with ⟨e1, e2, e3⟩ | ⟨e1, e2, e3, e4, e5, e6⟩
    · simp [f_X3_end_r, f_X3_end_k, f_X3_end_th, f_X3_end_td, f_X3_end_lk, f_X3_end_lp, f_X3_end_lg, f_X3_end_lm, f_X3_end_ls, f_X4_end_r, f_X4_end_mbY, f_X4_end_mtw, f_L_end_r, f_L_end_th, f_L_end_td, f_L_end_lk, f_L_end_lp, f_L_end_lg, f_L_end_lm, f_L_end_ls, f_L_end_oo, f_X4_goes_r, f_X4_goes_mtw, vp_updL, f_X2_hostOf_r, f_X2_untie_th, f_X2_untie_td, f_X1_addEnding_lk, f_X1_addEnding_lp, f_X1_addEnding_lg, f_X1_addEnding_lm, f_X1_addEnding_ls, f_X1_add_lk, f_X1_add_lp, f_X1_add_lg, f_X1_add_lm, f_X1_add_ls, gstp03, gstp04, e1, e2, hI1]
    · have e7 : ¬ mho (mbY p0.toNatClampNeg).toNatClampNeg = -1 := fun z => by rw [e3, z] at e4; exact absurd e4 (by unfold vp_in; decide)
      have hls2 : ls < 512 := by rw [hls]; exact (nI_ltI (a := L) (b := 512) (by omega) (by decide)).mpr (by omega)
      have hV := inv_end hI0 hn gin
      simp [f_X3_end_r, f_X3_end_k, f_X3_end_th, f_X3_end_td, f_X3_end_lk, f_X3_end_lp, f_X3_end_lg, f_X3_end_lm, f_X3_end_ls, f_X4_end_r, f_X4_end_mbY, f_X4_end_mtw, f_L_end_r, f_L_end_th, f_L_end_td, f_L_end_lk, f_L_end_lp, f_L_end_lg, f_L_end_lm, f_L_end_ls, f_L_end_oo, f_X4_goes_r, f_X4_goes_mtw, vp_updL, f_X2_hostOf_r, f_X2_untie_th, f_X2_untie_td, f_X1_addEnding_lk, f_X1_addEnding_lp, f_X1_addEnding_lg, f_X1_addEnding_lm, f_X1_addEnding_ls, f_X1_add_lk, f_X1_add_lp, f_X1_add_lg, f_X1_add_lm, f_X1_add_ls, gstp03, gstp04, e1, e3, e7, hls2, hV]
set_option maxHeartbeats 4000000 in
theorem s_lose {n : Nat} {mmi : Int32} {mfa : Nat → Int32} {mbY : Nat → Int32} {mbg : Nat → Int32} {mlo : Nat → Int32} {mnb : Int32} {mvo : Int32} {mho : Nat → Int32} {mro : Nat → Int32} {mwe : Nat → Int32} {mwi : Nat → Int32} {mba : Nat → Int32} {msg : Nat → Int32} {th : Nat → Int32} {tr : Nat → Int32} {tm : Nat → Int32} {tb : Nat → Int32} {td : Nat → Int32} {lk : Nat → Int32} {lp : Nat → Int32} {lg : Nat → Int32} {lm : Nat → Int32} {ls : Int32} {oo : Nat → Int64} {p0 : Int32} {p1 : Int32} (hn : n < 512) (hI : Inv (n) th tr tm tb td lk lp lg lm ls mfa mbY mbg mlo mnb mvo mho mro mwe mwi mba msg) : (f_L_lose_r mmi p0 p1) = (f_X4_lose_mtw mmi p0 p1) ∧ (f_L_lose_tl mmi mlo p0 p1) = (f_X4_lose_mlo mmi mlo p0 p1) ∧ ((f_L_lose_r mmi p0 p1) = 0 → (f_L_lose_oo mmi th tm tb td mbg mlo oo p0 p1) 0 = (f_X4_lose_r mmi mbY mbg mlo mvo mho mwe mwi mba p0 p1).toInt64) ∧ Inv (n + 1) th tr tm tb (f_L_lose_td mmi th tm tb td mbg p0 p1) (f_L_lose_lk mmi lk ls p0 p1) (f_L_lose_lp mmi lp ls p0 p1) (f_L_lose_lg mmi lg ls p0 p1) (f_L_lose_lm mmi lm ls p0 p1) (f_L_lose_ls mmi ls p0 p1) mfa mbY mbg (f_X4_lose_mlo mmi mlo p0 p1) mnb mvo mho mro mwe mwi (f_X4_lose_mba mmi mbg mvo mho mwe mwi mba p0 p1) msg := by
  have hI1 := inv_succ hI
  have hI0 := hI
  obtain ⟨hfa, ⟨N, hN, hvo, hR, hb0⟩, hho, hba, hlo, ⟨B, hnb, hB⟩, hbg, ⟨L, hls, hL, hev, hrp⟩, hsg⟩ := hI
  rcases per_cs p0 with ⟨perp03, perp04⟩ | ⟨perp03, perp04⟩
  · simp [f_X3_lose_r, f_X3_lose_k, f_X3_lose_td, f_X3_lose_tl, f_X3_lose_lk, f_X3_lose_lp, f_X3_lose_lg, f_X3_lose_lm, f_X3_lose_ls, f_X4_lose_r, f_X4_lose_mlo, f_X4_lose_mba, f_X4_lose_mtw, f_L_lose_r, f_L_lose_td, f_L_lose_tl, f_L_lose_lk, f_L_lose_lp, f_L_lose_lg, f_L_lose_lm, f_L_lose_ls, f_L_lose_oo, f_X4_goes_r, f_X4_goes_mtw, vp_updL, f_X2_countTainted_r, f_X2_markLost_tl, f_X1_addLoss_lk, f_X1_addLoss_lp, f_X1_addLoss_lg, f_X1_addLoss_lm, f_X1_addLoss_ls, f_X1_add_lk, f_X1_add_lp, f_X1_add_lg, f_X1_add_lm, f_X1_add_ls, perp03, perp04, hI1]
  · have perp0n : ¬ f_X3_isPerson_r p0 = 0 := by rw [perp03]; decide
    by_cases rp1a : p1 < 0
    · have rp1i := in_lo (b := mmi) rp1a
      simp [f_X3_lose_r, f_X3_lose_k, f_X3_lose_td, f_X3_lose_tl, f_X3_lose_lk, f_X3_lose_lp, f_X3_lose_lg, f_X3_lose_lm, f_X3_lose_ls, f_X4_lose_r, f_X4_lose_mlo, f_X4_lose_mba, f_X4_lose_mtw, f_L_lose_r, f_L_lose_td, f_L_lose_tl, f_L_lose_lk, f_L_lose_lp, f_L_lose_lg, f_L_lose_lm, f_L_lose_ls, f_L_lose_oo, f_X4_goes_r, f_X4_goes_mtw, vp_updL, f_X2_countTainted_r, f_X2_markLost_tl, f_X1_addLoss_lk, f_X1_addLoss_lp, f_X1_addLoss_lg, f_X1_addLoss_lm, f_X1_addLoss_ls, f_X1_add_lk, f_X1_add_lp, f_X1_add_lg, f_X1_add_lm, f_X1_add_ls, perp03, perp04, rp1a, rp1i, hI1]
    · by_cases rp1b : mmi < p1
      · have rp1i := in_hi (a := 0) rp1b
        have rp1c := Int32.not_le.mpr rp1b
        simp [f_X3_lose_r, f_X3_lose_k, f_X3_lose_td, f_X3_lose_tl, f_X3_lose_lk, f_X3_lose_lp, f_X3_lose_lg, f_X3_lose_lm, f_X3_lose_ls, f_X4_lose_r, f_X4_lose_mlo, f_X4_lose_mba, f_X4_lose_mtw, f_L_lose_r, f_L_lose_td, f_L_lose_tl, f_L_lose_lk, f_L_lose_lp, f_L_lose_lg, f_L_lose_lm, f_L_lose_ls, f_L_lose_oo, f_X4_goes_r, f_X4_goes_mtw, vp_updL, f_X2_countTainted_r, f_X2_markLost_tl, f_X1_addLoss_lk, f_X1_addLoss_lp, f_X1_addLoss_lg, f_X1_addLoss_lm, f_X1_addLoss_ls, f_X1_add_lk, f_X1_add_lp, f_X1_add_lg, f_X1_add_lm, f_X1_add_ls, perp03, perp04, rp1a, rp1b, rp1c, rp1i, hI1]
      · have rp1i := in_ok rp1a rp1b
        have rp1c := Int32.not_lt.mp rp1b
        subst hvo
        have pin := per_in perp0n
        have e1 := count_is (tie_lose hR hN hba mbg pin p1) hN (bl_upd hlo p0.toNatClampNeg 1 (Or.inr rfl)) mbg mlo mba p0 p1 (nI N) rfl rfl 13 0 0 rfl
        rw [nI_0] at e1
        have hls2 : ls < 512 := by rw [hls]; exact (nI_ltI (a := L) (b := 512) (by omega) (by decide)).mpr (by omega)
        have hV := inv_lose hI0 hn pin p1
        simp [f_X3_lose_r, f_X3_lose_k, f_X3_lose_td, f_X3_lose_tl, f_X3_lose_lk, f_X3_lose_lp, f_X3_lose_lg, f_X3_lose_lm, f_X3_lose_ls, f_X4_lose_r, f_X4_lose_mlo, f_X4_lose_mba, f_X4_lose_mtw, f_L_lose_r, f_L_lose_td, f_L_lose_tl, f_L_lose_lk, f_L_lose_lp, f_L_lose_lg, f_L_lose_lm, f_L_lose_ls, f_L_lose_oo, f_X4_goes_r, f_X4_goes_mtw, vp_updL, f_X2_countTainted_r, f_X2_markLost_tl, f_X1_addLoss_lk, f_X1_addLoss_lp, f_X1_addLoss_lg, f_X1_addLoss_lm, f_X1_addLoss_ls, f_X1_add_lk, f_X1_add_lp, f_X1_add_lg, f_X1_add_lm, f_X1_add_ls, perp03, perp04, rp1a, rp1b, rp1c, rp1i, e1, hls2, hV]
set_option maxHeartbeats 4000000 in
theorem s_issue {n : Nat} {mfa : Nat → Int32} {mbY : Nat → Int32} {mbg : Nat → Int32} {mlo : Nat → Int32} {mnb : Int32} {mvo : Int32} {mho : Nat → Int32} {mro : Nat → Int32} {mwe : Nat → Int32} {mwi : Nat → Int32} {mba : Nat → Int32} {msg : Nat → Int32} {th : Nat → Int32} {tr : Nat → Int32} {tm : Nat → Int32} {tb : Nat → Int32} {td : Nat → Int32} {lk : Nat → Int32} {lp : Nat → Int32} {lg : Nat → Int32} {lm : Nat → Int32} {ls : Int32} {oo : Nat → Int64} {p0 : Int32} (hn : n < 512) (hI : Inv (n) th tr tm tb td lk lp lg lm ls mfa mbY mbg mlo mnb mvo mho mro mwe mwi mba msg) : (f_L_issue_r p0) = (f_X4_issue_mtw p0) ∧ (f_L_issue_tg mbg mnb p0) = (f_X4_issue_mbg mbg mnb p0) ∧ (f_L_issue_tl mlo p0) = (f_X4_issue_mlo mlo p0) ∧ (f_L_issue_tn mnb p0) = (f_X4_issue_mnb mnb p0) ∧ ((f_L_issue_r p0) = 0 → (f_L_issue_oo mbg mnb oo p0) 0 = (f_X4_issue_r mnb p0).toInt64) ∧ Inv (n + 1) th tr tm tb td (f_L_issue_lk lk ls p0) (f_L_issue_lp lp ls p0) (f_L_issue_lg lg ls p0) (f_L_issue_lm lm ls p0) (f_L_issue_ls ls p0) mfa mbY (f_X4_issue_mbg mbg mnb p0) (f_X4_issue_mlo mlo p0) (f_X4_issue_mnb mnb p0) mvo mho mro mwe mwi mba msg := by
  have hI1 := inv_succ hI
  have hI0 := hI
  obtain ⟨hfa, ⟨N, hN, hvo, hR, hb0⟩, hho, hba, hlo, ⟨B, hnb, hB⟩, hbg, ⟨L, hls, hL, hev, hrp⟩, hsg⟩ := hI
  rcases per_cs p0 with ⟨perp03, perp04⟩ | ⟨perp03, perp04⟩
  · simp [f_X3_issue_r, f_X3_issue_k, f_X3_issue_tg, f_X3_issue_tl, f_X3_issue_tn, f_X3_issue_lk, f_X3_issue_lp, f_X3_issue_lg, f_X3_issue_lm, f_X3_issue_ls, f_X4_issue_r, f_X4_issue_mbg, f_X4_issue_mlo, f_X4_issue_mnb, f_X4_issue_mtw, f_L_issue_r, f_L_issue_tg, f_L_issue_tl, f_L_issue_tn, f_L_issue_lk, f_L_issue_lp, f_L_issue_lg, f_L_issue_lm, f_L_issue_ls, f_L_issue_oo, f_X4_goes_r, f_X4_goes_mtw, vp_updL, f_X2_renewBadge_tg, f_X2_renewBadge_tl, f_X2_renewBadge_tn, f_X2_badgeOf_r, upd_at, f_X1_addIssue_lk, f_X1_addIssue_lp, f_X1_addIssue_lg, f_X1_addIssue_lm, f_X1_addIssue_ls, f_X1_add_lk, f_X1_add_lp, f_X1_add_lg, f_X1_add_lm, f_X1_add_ls, perp03, perp04, hI1]
  · have perp0n : ¬ f_X3_isPerson_r p0 = 0 := by rw [perp03]; decide
    have pin := per_in perp0n
    have e1 : (mnb + 1) - 1 = mnb := by rw [hnb, nI_1, nI_pred]
    have hls2 : ls < 512 := by rw [hls]; exact (nI_ltI (a := L) (b := 512) (by omega) (by decide)).mpr (by omega)
    have hV := inv_issue hI0 hn pin
    simp [f_X3_issue_r, f_X3_issue_k, f_X3_issue_tg, f_X3_issue_tl, f_X3_issue_tn, f_X3_issue_lk, f_X3_issue_lp, f_X3_issue_lg, f_X3_issue_lm, f_X3_issue_ls, f_X4_issue_r, f_X4_issue_mbg, f_X4_issue_mlo, f_X4_issue_mnb, f_X4_issue_mtw, f_L_issue_r, f_L_issue_tg, f_L_issue_tl, f_L_issue_tn, f_L_issue_lk, f_L_issue_lp, f_L_issue_lg, f_L_issue_lm, f_L_issue_ls, f_L_issue_oo, f_X4_goes_r, f_X4_goes_mtw, vp_updL, f_X2_renewBadge_tg, f_X2_renewBadge_tl, f_X2_renewBadge_tn, f_X2_badgeOf_r, upd_at, f_X1_addIssue_lk, f_X1_addIssue_lp, f_X1_addIssue_lg, f_X1_addIssue_lm, f_X1_addIssue_ls, f_X1_add_lk, f_X1_add_lp, f_X1_add_lg, f_X1_add_lm, f_X1_add_ls, perp03, perp04, e1, hls2, hV]
theorem st_cong {th td th' td' : Nat → Int32} (h : ∀ j : Nat, j < 12 → th j = th' j ∧ td j = td' j) (hth : ∀ j : Nat, j < 12 → inN (th j)) : ∀ (n : Nat) (x k : Int32), inN x → FX2_standsOnBadVouching_4_r n x k th td = FX2_standsOnBadVouching_4_r n x k th' td'
  | 0, _, _, _ => rfl
  | n + 1, x, k, hx => by
    unfold FX2_standsOnBadVouching_4_r
    by_cases c : 12 ≤ k
    · rw [if_pos c, if_pos c]
    · rw [if_neg c, if_neg c]
      by_cases d : f_X3_isGuest_r x = 0
      · rw [if_pos d, if_pos d]
      · have hv := vp_lt (gst_in d)
        rw [if_neg d, if_neg d, (h _ hv).2, (h _ hv).1, ← (h _ hv).1, st_cong h hth n (th x.toNatClampNeg) _ (hth _ hv)]
theorem reset_h (j : Nat) : ∀ (n k : Nat) (a b c d : Nat → Int32), n + k = 13 → k ≤ 12 → FX2_reset_2_vth n (nI k) a b c d j = (if k ≤ j ∧ j < 12 then -1 else a j) ∧ FX2_reset_2_vtd n (nI k) a b c d j = (if k ≤ j ∧ j < 12 then 0 else b j) ∧ FX2_reset_2_vtg n (nI k) a b c d j = (if k ≤ j ∧ j < 12 then nI j else c j) ∧ FX2_reset_2_vtl n (nI k) a b c d j = (if k ≤ j ∧ j < 12 then 0 else d j)
  | 0, k, _, _, _, _, h, h2 => by omega
  | n + 1, k, a, b, c, d, h, h2 => by
    unfold FX2_reset_2_vth FX2_reset_2_vtd FX2_reset_2_vtg FX2_reset_2_vtl
    by_cases e : k = 12
    · subst e
      have z : ¬ (12 ≤ j ∧ j < 12) := by omega
      rw [if_pos zc_12e, if_pos zc_12e, if_pos zc_12e, if_pos zc_12e, if_neg z, if_neg z, if_neg z, if_neg z]
      exact ⟨rfl, rfl, rfl, rfl⟩
    · have q := zc_12 (k := k) (by omega)
      rw [if_neg q, if_neg q, if_neg q, if_neg q, nI_1, zc_nat (n := k) (by omega)]
      obtain ⟨h3, h4, h5, h6⟩ := reset_h j n (k + 1) (upd a k (-1)) (upd b k 0) (upd c k (nI k)) (upd d k 0) (by omega) (by omega)
      rw [h3, h4, h5, h6]
      by_cases f : j = k
      · subst f
        have y : ¬ (j + 1 ≤ j ∧ j < 12) := by omega
        have z : j ≤ j ∧ j < 12 := by omega
        rw [if_neg y, if_neg y, if_neg y, if_neg y, if_pos z, if_pos z, if_pos z, if_pos z, upd_at, upd_at, upd_at, upd_at]
        exact ⟨rfl, rfl, rfl, rfl⟩
      · rw [upd_ne _ _ f, upd_ne _ _ f, upd_ne _ _ f, upd_ne _ _ f]
        by_cases y : k ≤ j ∧ j < 12
        · have z : k + 1 ≤ j ∧ j < 12 := by omega
          rw [if_pos y, if_pos y, if_pos y, if_pos y, if_pos z, if_pos z, if_pos z, if_pos z]
          exact ⟨rfl, rfl, rfl, rfl⟩
        · have z : ¬ (k + 1 ≤ j ∧ j < 12) := by omega
          rw [if_neg y, if_neg y, if_neg y, if_neg y, if_neg z, if_neg z, if_neg z, if_neg z]
          exact ⟨rfl, rfl, rfl, rfl⟩
theorem reset_fresh (uh ud ug ul um ub : Nat → Int32) : freshT (f_X2_reset_th uh ud ug ul, um, ub, f_X2_reset_td uh ud ug ul, f_X2_reset_tg uh ud ug ul, f_X2_reset_tl uh ud ug ul, f_X2_reset_tn) := by
  refine ⟨fun j hj => ?_, rfl⟩
  obtain ⟨h3, h4, h5, h6⟩ := reset_h j 13 0 uh ud ug ul rfl (by decide)
  have z : 0 ≤ j ∧ j < 12 := ⟨Nat.zero_le _, hj⟩
  rw [if_pos z] at h3 h4 h5 h6
  exact ⟨h3, h4, h5, h6⟩
theorem replay_eq {L n : Nat} (hL : L ≤ n) (hn : n < 513) {lk lp lg lm th tm tb td tg tl : Nat → Int32} {tn : Int32} (h : ∀ S : T7, freshT S → eqvT (rpF lk lp lg lm L 0 S) (th, tm, tb, td, tg, tl, tn)) (uh um ub ud ug ul : Nat → Int32) (j : Nat) (hj : j < 12) : f_X1_replayInto_th lk lp lg lm (nI L) uh um ub ud ug ul j = th j ∧ f_X1_replayInto_td lk lp lg lm (nI L) uh um ub ud ug ul j = td j ∧ f_X1_replayInto_tl lk lp lg lm (nI L) uh um ub ud ug ul j = tl j := by
  have h1 := h _ (reset_fresh uh ud ug ul um ub)
  have e1 := rp_th lk lp lg lm L (by omega) L 0 (f_X2_reset_th uh ud ug ul, um, ub, f_X2_reset_td uh ud ug ul, f_X2_reset_tg uh ud ug ul, f_X2_reset_tl uh ud ug ul, f_X2_reset_tn) (Nat.zero_add _)
  have e2 := rp_td lk lp lg lm L (by omega) L 0 (f_X2_reset_th uh ud ug ul, um, ub, f_X2_reset_td uh ud ug ul, f_X2_reset_tg uh ud ug ul, f_X2_reset_tl uh ud ug ul, f_X2_reset_tn) (Nat.zero_add _)
  have e3 := rp_tl lk lp lg lm L (by omega) L 0 (f_X2_reset_th uh ud ug ul, um, ub, f_X2_reset_td uh ud ug ul, f_X2_reset_tg uh ud ug ul, f_X2_reset_tl uh ud ug ul, f_X2_reset_tn) (Nat.zero_add _)
  rw [nI_0] at e1 e2 e3
  unfold f_X1_replayInto_th f_X1_replayInto_td f_X1_replayInto_tl
  rw [zc_nat (n := L) (by omega)]
  obtain ⟨a1, a2, a3, a4, a5⟩ := h1.1 j hj
  exact ⟨(congrFun e1 j).trans a1, (congrFun e2 j).trans a3, (congrFun e3 j).trans a5⟩
theorem anew_eq {L n : Nat} (hL : L ≤ n) (hn : n < 513) {lk lp lg lm th tm tb td tg tl : Nat → Int32} {tn : Int32} (h : ∀ S : T7, freshT S → eqvT (rpF lk lp lg lm L 0 S) (th, tm, tb, td, tg, tl, tn)) (hth : ∀ j : Nat, j < 12 → inN (th j)) (uh um ub ud ug ul : Nat → Int32) {x : Int32} (hx : vp_in x 12) : f_X2_isTainted_r (f_X1_replayInto_th lk lp lg lm (nI L) uh um ub ud ug ul) (f_X1_replayInto_td lk lp lg lm (nI L) uh um ub ud ug ul) (f_X1_replayInto_tl lk lp lg lm (nI L) uh um ub ud ug ul) x = f_X2_isTainted_r th td tl x := by
  have hq := replay_eq hL hn h uh um ub ud ug ul
  unfold f_X2_isTainted_r f_X2_standsOnBadVouching_r
  rw [(hq _ (vp_lt hx)).2.2, st_cong (fun j hj => ⟨(hq j hj).1.symm, (hq j hj).2.1.symm⟩) hth 13 x 0 (Or.inr hx)]
set_option maxHeartbeats 4000000 in
theorem s_taintedAnew {n : Nat} {mfa : Nat → Int32} {mbY : Nat → Int32} {mbg : Nat → Int32} {mlo : Nat → Int32} {mnb : Int32} {mvo : Int32} {mho : Nat → Int32} {mro : Nat → Int32} {mwe : Nat → Int32} {mwi : Nat → Int32} {mba : Nat → Int32} {msg : Nat → Int32} {th : Nat → Int32} {tr : Nat → Int32} {tm : Nat → Int32} {tb : Nat → Int32} {td : Nat → Int32} {lk : Nat → Int32} {lp : Nat → Int32} {lg : Nat → Int32} {lm : Nat → Int32} {ls : Int32} {uh : Nat → Int32} {um : Nat → Int32} {ub : Nat → Int32} {ud : Nat → Int32} {ug : Nat → Int32} {ul : Nat → Int32} {oo : Nat → Int64} {p0 : Int32} (hn : n < 512) (hI : Inv (n) th tr tm tb td lk lp lg lm ls mfa mbY mbg mlo mnb mvo mho mro mwe mwi mba msg) : (f_L_taintedAnew_r p0) = (f_X4_taintedAnew_mtw p0) ∧ ((f_L_taintedAnew_r p0) = 0 → (f_L_taintedAnew_oo uh um ub ud ug ul lk lp lg lm ls oo p0) 0 = (if (f_X4_taintedAnew_r mbY mlo mho mba p0) = 0 then 0 else 1)) ∧ Inv (n + 1) th tr tm tb td lk lp lg lm ls mfa mbY mbg mlo mnb mvo mho mro mwe mwi mba msg := by
  have hI1 := inv_succ hI
  have hI0 := hI
  obtain ⟨hfa, ⟨N, hN, hvo, hR, hb0⟩, hho, hba, hlo, ⟨B, hnb, hB⟩, hbg, ⟨L, hls, hL, hev, hrp⟩, hsg⟩ := hI
  rcases per_cs p0 with ⟨perp03, perp04⟩ | ⟨perp03, perp04⟩
  · simp [f_X3_taintedAnew_r, f_X3_taintedAnew_k, f_X3_taintedAnew_uh, f_X3_taintedAnew_um, f_X3_taintedAnew_ub, f_X3_taintedAnew_ud, f_X3_taintedAnew_ug, f_X3_taintedAnew_ul, f_X3_taintedAnew_un, f_X4_taintedAnew_r, f_X4_taintedAnew_mtw, f_L_taintedAnew_r, f_L_taintedAnew_uh, f_L_taintedAnew_um, f_L_taintedAnew_ub, f_L_taintedAnew_ud, f_L_taintedAnew_ug, f_L_taintedAnew_ul, f_L_taintedAnew_un, f_L_taintedAnew_oo, f_X4_goes_r, f_X4_goes_mtw, vp_updL, perp03, perp04, hI1]
  · have perp0n : ¬ f_X3_isPerson_r p0 = 0 := by rw [perp03]; decide
    subst hls
    have pin := per_in perp0n
    have e1 := anew_eq hL (by omega) hrp (tie_th hR) uh um ub ud ug ul pin
    have e2 := taint_eq hR hN hlo pin
    by_cases c1 : f_X2_isTainted_r th td mlo p0 = 0
    · simp [f_X3_taintedAnew_r, f_X3_taintedAnew_k, f_X3_taintedAnew_uh, f_X3_taintedAnew_um, f_X3_taintedAnew_ub, f_X3_taintedAnew_ud, f_X3_taintedAnew_ug, f_X3_taintedAnew_ul, f_X3_taintedAnew_un, f_X4_taintedAnew_r, f_X4_taintedAnew_mtw, f_L_taintedAnew_r, f_L_taintedAnew_uh, f_L_taintedAnew_um, f_L_taintedAnew_ub, f_L_taintedAnew_ud, f_L_taintedAnew_ug, f_L_taintedAnew_ul, f_L_taintedAnew_un, f_L_taintedAnew_oo, f_X4_goes_r, f_X4_goes_mtw, vp_updL, perp03, perp04, e1, e2, c1, hI1]
    · simp [f_X3_taintedAnew_r, f_X3_taintedAnew_k, f_X3_taintedAnew_uh, f_X3_taintedAnew_um, f_X3_taintedAnew_ub, f_X3_taintedAnew_ud, f_X3_taintedAnew_ug, f_X3_taintedAnew_ul, f_X3_taintedAnew_un, f_X4_taintedAnew_r, f_X4_taintedAnew_mtw, f_L_taintedAnew_r, f_L_taintedAnew_uh, f_L_taintedAnew_um, f_L_taintedAnew_ub, f_L_taintedAnew_ud, f_L_taintedAnew_ug, f_L_taintedAnew_ul, f_L_taintedAnew_un, f_L_taintedAnew_oo, f_X4_goes_r, f_X4_goes_mtw, vp_updL, perp03, perp04, e1, e2, c1, hI1]
