/-! ### the sign -/
theorem pdg_cong : ∀ (n : Nat) (f g : Nat → Int32) (q r : Nat), (r < 10 ^ n ∧ 1 ≤ n) → (∀ i : Nat, i < q → f i = g i ∧ ∃ c : Nat, c < 128 ∧ g i = nI c) → ∀ i : Nat, i < q + nd r → r < 1000 → pdg n f q r i = pdg n g q r i ∧ ∃ c : Nat, c < 128 ∧ pdg n g q r i = nI c
  | 0, f, g, q, r, hr, h, i, hi, h1 => absurd hr.2 (by decide)
  | n + 1, f, g, q, r, hr, h, i, hi, h1 => by
    have h' : ∀ i : Nat, i < q + 1 → upd f q (nI (48 + r % 10)) i = upd g q (nI (48 + r % 10)) i ∧ ∃ c : Nat, c < 128 ∧ upd g q (nI (48 + r % 10)) i = nI c := fun i hi => by
      by_cases c : i = q
      · subst c
        rw [upd_at, upd_at]
        exact ⟨rfl, 48 + r % 10, by omega, rfl⟩
      · rw [upd_ne _ _ c, upd_ne _ _ c]
        exact h i (by omega)
    unfold pdg
    by_cases d : r / 10 = 0
    · rw [if_pos d, if_pos d]
      have : nd r = 1 := by unfold nd; rw [if_pos (by omega)]
      exact h' i (by omega)
    · rw [if_neg d, if_neg d]
      have hd : nd r = 1 + nd (r / 10) := by
        unfold nd
        rw [if_neg (by omega : ¬ r < 10)]
        by_cases c4 : r < 100
        · rw [if_pos c4, if_pos (by omega : r / 10 < 10)]
        · rw [if_neg c4, if_neg (by omega : ¬ r / 10 < 10), if_pos (by omega : r / 10 < 100)]
      exact pdg_cong n _ _ (q + 1) (r / 10) (by
        have h2 := hr.1
        rw [Nat.pow_succ] at h2
        refine ⟨by omega, ?_⟩
        rcases Nat.eq_zero_or_pos n with z | z
        · subst z; omega
        · exact z) h' i (by omega) (by omega)
theorem put_nar : ∀ c : Nat, c < 128 → vp_nar .char ((nI c).toUInt32 % 65536).toInt32 = nI c := by decide +kernel
theorem put_is (f : Nat → Int32) {q c : Nat} (hq : q < 1000) (hc : c < 128) : f_X4_puts_msg f (nI q) (nI c) = upd f q (nI c) := by
  unfold f_X4_puts_msg
  rw [put_nar c hc, zc_nat (by omega)]
theorem put_ns (q : Nat) : f_X4_puts_mns (nI q) = nI (q + 1) := nI_1 q
theorem dgt_is {r : Nat} (hr : r < 1000) : (48 : Int32) + (nI r - nI r / 10 * 10) = nI (48 + r % 10) := by
  rw [dg_r rfl hr, show (48 : Int32) = nI 48 from rfl, nI_add]
theorem mdg : ∀ (n r q : Nat) (f : Nat → Int32), r < 1000 → r < 10 ^ (n + 1) → q + n < 100 → FX4_sign_79_vmsg (n + 1) (nI r) (upd f q (nI (48 + r % 10))) (nI (q + 1)) = pdg (n + 1) f q r ∧ FX4_sign_79_vmns (n + 1) (nI r) (upd f q (nI (48 + r % 10))) (nI (q + 1)) = nI (q + nd r)
  | n, r, q, f, h1, h2, h3 => by
    unfold FX4_sign_79_vmsg FX4_sign_79_vmns pdg
    by_cases c : r ≤ 9
    · rw [if_pos (show nI r ≤ (9 : Int32) from nI_le (a := r) (b := 9) c (by decide)), if_pos (show nI r ≤ (9 : Int32) from nI_le (a := r) (b := 9) c (by decide)), if_pos (by omega)]
      exact ⟨rfl, by congr 1; unfold nd; rw [if_pos (by omega)]⟩
    · rw [if_neg (show ¬ nI r ≤ (9 : Int32) from nI_ge (a := 9) (b := r) (by omega) (by omega)), if_neg (show ¬ nI r ≤ (9 : Int32) from nI_ge (a := 9) (b := r) (by omega) (by omega)), if_neg (by omega)]
      have e : nI r / 10 = nI (r / 10) := pk_div (d := 10) (by omega) (by omega) (by omega)
      have hd : nd r = 1 + nd (r / 10) := by
        unfold nd
        rw [if_neg (by omega : ¬ r < 10)]
        by_cases c4 : r < 100
        · rw [if_pos c4, if_pos (by omega : r / 10 < 10)]
        · rw [if_neg c4, if_neg (by omega : ¬ r / 10 < 10), if_pos (by omega : r / 10 < 100)]
      rw [e, dgt_is (by omega), put_is _ (by omega) (by omega), put_ns]
      match n, h2 with
      | 0, h2 => exact absurd h2 (by omega)
      | n + 1, h2 =>
        obtain ⟨a1, a2⟩ := mdg n (r / 10) (q + 1) (upd f q (nI (48 + r % 10))) (by omega) (Nat.div_lt_of_lt_mul (by rw [Nat.mul_comm, ← Nat.pow_succ]; exact h2)) (by omega)
        exact ⟨a1, by rw [a2, hd]; congr 1; omega⟩
theorem ch_and : ∀ c : Nat, c < 128 → ((nI c &&& 255).toUInt32 % 65536).toInt32 = nI c := by decide +kernel
theorem ga_1 : ∀ a : Nat, a < 10 → f_J4_append_bf812_z0_2 (nI a) = nI 1 ∧ f_J4_append_bf812_sb (fun _ => 0) (nI a) 0 = nI (48 + a) := by decide +kernel
theorem ga_2 : ∀ b : Nat, b < 2 → f_J4_append_bf812_z0_2 (nI (10 + b)) = nI 2 ∧ f_J4_append_bf812_sb (fun _ => 0) (nI (10 + b)) 0 = nI 49 ∧ f_J4_append_bf812_sb (fun _ => 0) (nI (10 + b)) 1 = nI (48 + b) := by decide +kernel
/-- with equal beginnings, equal signs -/
theorem sgn_core (f g : Nat → Int32) (q r c : Nat) (hq : q ≤ 3) (hr : r < 1000) (hc : c < 128) (hfg : ∀ i : Nat, i < q → f i = g i ∧ ∃ c : Nat, c < 128 ∧ g i = nI c) (i : Nat) (hi : i < q + nd r + 1) : f_J4_charAt_5068e_r (upd (pdg 4 f q r) (q + nd r) (nI c)) (nI i) = upd (pdg 4 g q r) (q + nd r) (nI c) i := by
  have hn : nd r ≤ 3 := by unfold nd; split <;> (try split) <;> omega
  have key : upd (pdg 4 f q r) (q + nd r) (nI c) i = upd (pdg 4 g q r) (q + nd r) (nI c) i ∧ ∃ c' : Nat, c' < 128 ∧ upd (pdg 4 g q r) (q + nd r) (nI c) i = nI c' := by
    by_cases z : i = q + nd r
    · subst z
      rw [upd_at, upd_at]
      exact ⟨rfl, c, hc, rfl⟩
    · rw [upd_ne _ _ z, upd_ne _ _ z]
      exact pdg_cong 4 f g q r ⟨by omega, by decide⟩ hfg i (by omega) hr
  unfold f_J4_charAt_5068e_r f_J5_charAt_5068e_r
  rw [zc_nat (by omega), key.1]
  obtain ⟨c', h1, h2⟩ := key.2
  rw [h2, ch_and c' h1]
/-- the gate's text -/
theorem gsgn {a b S : Nat} (ha : a < 12) (hb : b < 1000) (hS : S ≤ 3) {A : Nat → Int32} (hz : f_J4_append_cf468_sn (f_J4_append_bf812_z0_2 (nI a)) = nI S) (hA : f_J4_append_cf468_sb (f_J4_append_bf812_z0_2 (nI a)) (f_J4_append_bf812_sb (fun _ => 0) (nI a)) 45 = A) (tg : Nat → Int32) (ht : f_X2_badgeOf_r tg (nI a) = nI b) (hp : ¬ f_X3_isPerson_r (nI a) = 0) {p1 : Int32} (h0 : 0 ≤ p1) : f_X3_sign_r tg (nI a) p1 = if nI (S + nd b + 1) ≤ p1 then 0 else f_J4_charAt_5068e_r (upd (pdg 4 A S b) (S + nd b) (nI (65 + (3 * b + a) % 26))) p1 := by
  have hn : nd b ≤ 3 := by unfold nd; split <;> (try split) <;> omega
  have hf := ab_fun 4 0 b S A rfl hb (Or.inl rfl) hS
  rw [Nat.add_zero, nI_0] at hf
  unfold f_X3_sign_r
  rw [if_neg hp, if_pos h0, hz, hA, ht, lt_c rfl ha rfl hb]
  unfold f_X3_appendBackwards_sn f_X3_appendBackwards_sb
  rw [hf.1, hf.2, app_sn, app_sb _ (by omega) (by omega)]
  rfl
theorem sign_eq {a b : Nat} (ha : a < 12) (hb : b < 1000) (bg msg : Nat → Int32) (hg : bg a = nI b) (hp3 : ¬ f_X3_isPerson_r (nI a) = 0) (hp4 : f_X4_isPerson_r (nI a) = 1) {p1 : Int32} (h0 : ¬ p1 < 0) : f_X3_sign_r bg (nI a) p1 = f_X4_sign_r bg msg (nI a) p1 := by
  have hn : nd b ≤ 3 := by unfold nd; split <;> (try split) <;> omega
  have h0' : 0 ≤ p1 := Int32.not_lt.mp h0
  have ht : f_X2_badgeOf_r bg (nI a) = nI b := by unfold f_X2_badgeOf_r; rw [zc_nat (by omega), hg]
  have hlt : (65 : Int32) + ((3 * nI b + nI a) - (3 * nI b + nI a) / 26 * 26) = nI (65 + (3 * b + a) % 26) := by
    rw [show (3 : Int32) = nI 3 from rfl, pk_mul, nI_add, show (26 : Int32) = nI 26 from rfl, pk_rem (by omega) (by omega) (by omega), show (65 : Int32) = nI 65 from rfl, nI_add]
  have goes : ¬ f_X4_goes_r 1 1 1 = 0 := by decide
  obtain ⟨j, hj, rfl⟩ := nI_of h0
  unfold f_X4_sign_r
  rw [if_neg (show ¬ f_X4_isPerson_r (nI a) = 0 by rw [hp4]; decide), if_neg h0, if_neg goes, zc_nat (n := a) (by omega), hg, hlt, dgt_is (r := b) hb, dgt_is (r := a) (by omega)]
  by_cases c : a < 10
  · rw [if_pos (show nI a ≤ (9 : Int32) from nI_le (a := a) (b := 9) (by omega) (by decide))]
    obtain ⟨g1, g2⟩ := ga_1 a c
    have e1 : f_X4_puts_mns 0 = nI 1 := rfl
    have e2 : f_X4_puts_msg msg 0 (nI (48 + a % 10)) = upd msg 0 (nI (48 + a % 10)) := put_is msg (q := 0) (by decide) (by omega)
    rw [e1, e2, put_ns, show (45 : Int32) = nI 45 from rfl, put_is _ (q := 1) (by decide) (by decide), put_ns, put_is _ (q := 2) (by decide) (by omega)]
    obtain ⟨m1, m2⟩ := mdg 3 b 2 (upd (upd msg 0 (nI (48 + a % 10))) 1 (nI 45)) hb (by omega) (by decide)
    rw [m1, m2, put_ns, put_is _ (by omega) (by omega), nI_clamp hj]
    rw [gsgn (S := 2) (A := upd (f_J4_append_bf812_sb (fun _ => 0) (nI a)) 1 (nI 45)) ha hb (by decide) (by rw [g1]; rfl) (by rw [g1]; exact app_sb _ (q := 1) (c := 45) (by decide) (by decide)) bg ht hp3 h0']
    by_cases d : nI (2 + nd b + 1) ≤ nI j
    · rw [if_pos d, if_pos d]
    · rw [if_neg d, if_neg d]
      have dj : j < 2 + nd b + 1 := by
        have := mt (nI_leI (a := 2 + nd b + 1) (b := j) (by omega) hj).mpr d
        omega
      refine sgn_core _ _ 2 b _ (by decide) hb (by omega) (fun i hi => ?_) j dj
      match i, hi with
      | 0, _ => exact ⟨by rw [upd_ne _ _ (by decide), upd_ne _ _ (by decide), upd_at, g2, Nat.mod_eq_of_lt c], 48 + a % 10, by omega, by rw [upd_ne _ _ (by decide), upd_at]⟩
      | 1, _ => exact ⟨by rw [upd_at, upd_at], 45, by decide, by rw [upd_at]⟩
  · rw [if_neg (show ¬ nI a ≤ (9 : Int32) from nI_ge (a := 9) (b := a) (by omega) (by omega))]
    obtain ⟨b', rfl⟩ : ∃ b' : Nat, a = 10 + b' := ⟨a - 10, by omega⟩
    obtain ⟨g1, g2, g3⟩ := ga_2 b' (by omega)
    have e1 : f_X4_puts_mns 0 = nI 1 := rfl
    have e2 : f_X4_puts_msg msg 0 49 = upd msg 0 (nI 49) := put_is msg (q := 0) (c := 49) (by decide) (by decide)
    rw [e1, e2, put_ns, put_is _ (q := 1) (by decide) (by omega), put_ns, show (45 : Int32) = nI 45 from rfl, put_is _ (q := 2) (by decide) (by decide), put_ns, put_is _ (q := 3) (by decide) (by omega)]
    obtain ⟨m1, m2⟩ := mdg 3 b 3 (upd (upd (upd msg 0 (nI 49)) 1 (nI (48 + (10 + b') % 10))) 2 (nI 45)) hb (by omega) (by decide)
    rw [m1, m2, put_ns, put_is _ (by omega) (by omega), nI_clamp hj]
    rw [gsgn (S := 3) (A := upd (f_J4_append_bf812_sb (fun _ => 0) (nI (10 + b'))) 2 (nI 45)) ha hb (by decide) (by rw [g1]; rfl) (by rw [g1]; exact app_sb _ (q := 2) (c := 45) (by decide) (by decide)) bg ht hp3 h0']
    by_cases d : nI (3 + nd b + 1) ≤ nI j
    · rw [if_pos d, if_pos d]
    · rw [if_neg d, if_neg d]
      have dj : j < 3 + nd b + 1 := by
        have := mt (nI_leI (a := 3 + nd b + 1) (b := j) (by omega) hj).mpr d
        omega
      refine sgn_core _ _ 3 b _ (by decide) hb (by omega) (fun i hi => ?_) j dj
      match i, hi with
      | 0, _ => exact ⟨by rw [upd_ne _ _ (by decide), upd_ne _ _ (by decide), upd_ne _ _ (by decide), upd_at, g2], 49, by decide, by rw [upd_ne _ _ (by decide), upd_ne _ _ (by decide), upd_at]⟩
      | 1, _ => exact ⟨by rw [upd_ne _ _ (by decide), upd_ne _ _ (by decide), upd_at, g3]; congr 1; omega, 48 + (10 + b') % 10, by omega, by rw [upd_ne _ _ (by decide), upd_at]⟩
      | 2, _ => exact ⟨by rw [upd_at, upd_at], 45, by decide, by rw [upd_at]⟩
theorem sg_msgOK (bg : Nat → Int32) {p0 p1 : Int32} {msg : Nat → Int32} (h : chOK msg) : chOK (f_X4_sign_msg bg msg p0 p1) := by
  unfold f_X4_sign_msg
  split
  · exact h
  · split
    · exact h
    · split
      · exact h
      · split
        · exact chOK_puts (sg_ch _ _ _ _ (chOK_puts (chOK_puts (chOK_puts h _ _) _ _) _ _)) _ _
        · exact chOK_puts (sg_ch _ _ _ _ (chOK_puts (chOK_puts (chOK_puts (chOK_puts h _ _) _ _) _ _) _ _)) _ _
set_option maxHeartbeats 4000000 in
theorem s_sign {n : Nat} {mfa : Nat → Int32} {mbY : Nat → Int32} {mbg : Nat → Int32} {mlo : Nat → Int32} {mnb : Int32} {mvo : Int32} {mho : Nat → Int32} {mro : Nat → Int32} {mwe : Nat → Int32} {mwi : Nat → Int32} {mba : Nat → Int32} {msg : Nat → Int32} {th : Nat → Int32} {tr : Nat → Int32} {tm : Nat → Int32} {tb : Nat → Int32} {td : Nat → Int32} {lk : Nat → Int32} {lp : Nat → Int32} {lg : Nat → Int32} {lm : Nat → Int32} {ls : Int32} {oo : Nat → Int64} {p0 : Int32} {p1 : Int32} (hn : n < 512) (hI : Inv (n) th tr tm tb td lk lp lg lm ls mfa mbY mbg mlo mnb mvo mho mro mwe mwi mba msg) : (f_L_sign_r p0 p1) = (f_X4_sign_mtw p0 p1) ∧ ((f_L_sign_r p0 p1) = 0 → (f_L_sign_oo mbg oo p0 p1) 0 = (f_X4_sign_r mbg msg p0 p1).toInt64) ∧ Inv (n + 1) th tr tm tb td lk lp lg lm ls mfa mbY mbg mlo mnb mvo mho mro mwe mwi mba (f_X4_sign_msg mbg msg p0 p1) := by
  have hI1 := inv_succ hI
  have hI0 := hI
  obtain ⟨hfa, ⟨N, hN, hvo, hR, hb0⟩, hho, hba, hlo, ⟨B, hnb, hB⟩, hbg, ⟨L, hls, hL, hev, hrp⟩, hsg⟩ := hI
  rcases per_cs p0 with ⟨perp03, perp04⟩ | ⟨perp03, perp04⟩
  · simp [f_X3_sign_r, f_X3_sign_k, f_X4_sign_r, f_X4_sign_msg, f_X4_sign_mns, f_X4_sign_mtw, f_L_sign_r, f_L_sign_oo, f_X4_goes_r, f_X4_goes_mtw, vp_updL, perp03, perp04, hI1]
  · have perp0n : ¬ f_X3_isPerson_r p0 = 0 := by rw [perp03]; decide
    by_cases c0 : p1 < 0
    · skip
      have c1 : ¬ 0 ≤ p1 := Int32.not_le.mpr c0
      simp [f_X3_sign_r, f_X3_sign_k, f_X4_sign_r, f_X4_sign_msg, f_X4_sign_mns, f_X4_sign_mtw, f_L_sign_r, f_L_sign_oo, f_X4_goes_r, f_X4_goes_mtw, vp_updL, perp03, perp04, c0, c1, hI1]
    · skip
      have c1 : 0 ≤ p1 := Int32.not_lt.mp c0
      have pin := per_in perp0n
      obtain ⟨a, ha, rfl⟩ := pers_of pin
      obtain ⟨b, hb, hb2⟩ := hbg a ha
      have e1 := sign_eq ha (by omega) mbg msg hb perp0n perp04 c0
      have e2 : f_X3_sign_k (nI a) p1 = 0 := by unfold f_X3_sign_k; rw [if_neg perp0n, if_pos c1]
      have e3 : f_X4_sign_mtw (nI a) p1 = 0 := by unfold f_X4_sign_mtw; rw [if_neg (show ¬ f_X4_isPerson_r (nI a) = 0 by rw [perp04]; decide), if_neg c0]; rfl
      have hV := inv_sg hI1 (sg_msgOK mbg (p0 := nI a) (p1 := p1) hsg)
      simp [f_L_sign_r, f_L_sign_oo, vp_updL, e1, e2, e3, hV]
