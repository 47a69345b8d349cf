/-! the two sides answer alike, and stay tied -/
theorem reg_of {a : Int32} (h : ¬ f_M_isRegister a = 0) : ∃ j : Nat, j < 16 ∧ a = nI j := vp_in_of (in_M h) (by decide)
theorem reg_eq (a : Int32) : f_F_isRegister a = f_M_isRegister a := rfl
theorem fld_eq (a : Int32) : f_F_isField a = f_M_is a := by
  unfold f_F_isField f_M_is
  by_cases h0 : a < 0
  · rw [if_pos h0, if_pos h0]
  · rw [if_neg h0, if_neg h0]
    obtain ⟨n, hn, rfl⟩ := nI_of h0
    have e1 : f_F_firstByte (nI n) = nI (n / 8) := pk_shrN hn _ 3 (by decide)
    have e2 : f_F_lastByte (nI n) = nI (n % 8) := pk_andN (by omega) 3 (by decide)
    rw [rem_8 hn, div_8 hn, e1, e2, show (48 : Int32) = nI 48 from rfl, show (6 : Int32) = nI 6 from rfl, show (5 : Int32) = nI 5 from rfl]
    simp only [nI_ltI (show n % 8 < 2 ^ 31 by omega) (show n / 8 < 2 ^ 31 by omega), nI_ltI (show 5 < 2 ^ 31 by decide) (show n % 8 < 2 ^ 31 by omega), nI_leI (show 48 < 2 ^ 31 by decide) hn, nI_leI (show 6 < 2 ^ 31 by decide) (show n % 8 < 2 ^ 31 by omega)]
    repeat' split
    all_goals first | rfl | omega
theorem P_isField (a : Int32) : f_F_isField a = f_M_isField a := fld_eq a
theorem sel_0 {α : Type} {a b c : Int32} {X Y : α} (h : f_M_may a b c = 0) : (if (f_F_isRegister a) = 0 then X else (if (f_F_isRegister b) = 0 then X else (if (f_F_isField c) = 0 then X else Y))) = X := by
  by_cases h1 : f_F_isRegister a = 0
  · rw [if_pos h1]
  · rw [if_neg h1]
    by_cases h2 : f_F_isRegister b = 0
    · rw [if_pos h2]
    · rw [if_neg h2]
      by_cases h3 : f_F_isField c = 0
      · rw [if_pos h3]
      · exfalso
        unfold f_M_may at h
        rw [if_neg (show ¬ f_M_isRegister a = 0 from h1), if_neg (show ¬ f_M_isRegister b = 0 from h2), if_neg (show ¬ f_M_is c = 0 by rw [← fld_eq]; exact h3)] at h
        exact absurd h (by decide)
theorem sel_1 {α : Type} {a b c : Int32} {X Y : α} (h : ¬ f_M_may a b c = 0) : (if (f_F_isRegister a) = 0 then X else (if (f_F_isRegister b) = 0 then X else (if (f_F_isField c) = 0 then X else Y))) = Y := by
  rw [if_neg (show ¬ f_F_isRegister a = 0 from may_1 h), if_neg (show ¬ f_F_isRegister b = 0 from may_2 h), if_neg (show ¬ f_F_isField c = 0 by rw [fld_eq]; exact may_3 h)]
theorem w_mg (s : Nat) (c : Nat → Nat) : wN s c = mg c 1 5 + s * 1073741824 := by
  simp [wN, mg]
  omega
theorem mg15 {c : Nat → Nat} (hc : okC c) : mg c 1 5 < 1073741824 := mg_lt (L := 0) (R := 5) hc (by decide) (by decide)
theorem P_value {f g b t w : Nat → Int32} (h : Rel f g b) (a : Int32) : f_F_value f a = f_M_value g b t w a := by
  unfold f_F_value f_M_value
  rw [reg_eq]
  by_cases hr : f_M_isRegister a = 0
  · rw [if_pos hr, if_pos hr]
  · rw [if_neg hr, if_neg hr]
    obtain ⟨j, hj, rfl⟩ := reg_of hr
    obtain ⟨s, c, hs, hc, eg, eb, ef⟩ := h j hj
    have em : f_M_number g b t w (nI j) (1 : Int32) (5 : Int32) = nI (mg c 1 5) := mn_e (L := 0) (R := 5) hj eb (by decide) (by decide)
    have hm := mg15 hc
    rw [nI_clamp (show j < 2 ^ 31 by omega), em, eg, ef, w_mg, num_e hm hs]
    generalize mg c 1 5 = M at hm ⊢
    rcases (show s = 0 ∨ s = 1 by omega) with rfl | rfl
    · rw [if_neg (show ¬ nI (M + 0 * 1073741824) = (1073741824 : Int32) by rw [show (1073741824 : Int32) = nI 1073741824 from rfl, nI_eq (by omega) (by decide)]; omega), if_pos (show (0 : Nat) = 0 from rfl), if_pos nI_0]
    · rw [if_neg (show ¬ (1 : Nat) = 0 by decide), if_neg (show ¬ nI 1 = 0 by decide)]
      by_cases h0 : M = 0
      · subst h0
        rw [if_pos (show nI (0 + 1 * 1073741824) = (1073741824 : Int32) from rfl), if_pos nI_0]
      · rw [if_neg (show ¬ nI (M + 1 * 1073741824) = (1073741824 : Int32) by rw [show (1073741824 : Int32) = nI 1073741824 from rfl, nI_eq (by omega) (by decide)]; omega), if_neg (show ¬ nI M = 0 by rw [← nI_0, nI_eq (by omega) (by decide)]; exact h0)]
theorem P_byteOf {f g b t w : Nat → Int32} (h : Rel f g b) (a k : Int32) : f_F_byteOf f a k = f_M_byteOf g b t w a k := by
  unfold f_F_byteOf f_M_byteOf
  rw [reg_eq]
  by_cases hr : f_M_isRegister a = 0
  · rw [if_pos hr, if_pos hr]
  rw [if_neg hr, if_neg hr]
  by_cases h0 : k < 0
  · rw [if_pos h0, if_pos h0]
  rw [if_neg h0, if_neg h0]
  by_cases h5 : k ≤ (5 : Int32)
  · rw [if_pos h5, if_pos h5]
    obtain ⟨j, hj, rfl⟩ := reg_of hr
    obtain ⟨n, hn, rfl⟩ := vp_in_of (in_6 h0 h5) (by decide)
    obtain ⟨s, c, hs, hc, eg, eb, ef⟩ := h j hj
    rw [nI_clamp (show j < 2 ^ 31 by omega), eg, ef]
    by_cases hn0 : n = 0
    · subst hn0
      rw [if_pos nI_0, if_pos (show nI 0 ≤ 0 by decide)]
      have hq := minus_e (mg15 hc) hs
      rw [← w_mg] at hq
      rcases (show s = 0 ∨ s = 1 by omega) with rfl | rfl
      · rw [if_pos (hq.mpr rfl), if_pos nI_0]
      · rw [if_neg (fun z => absurd (hq.mp z) (by decide)), if_neg (show ¬ nI 1 = 0 by decide)]
    · have hW := wN_lt hs hc
      rw [if_neg (show ¬ nI n = 0 by rw [← nI_0, nI_eq (by omega) (by decide)]; exact hn0), if_neg (show ¬ nI n ≤ 0 by rw [← nI_0, nI_leI (by omega) (by decide)]; omega), ix_e hj hn, eb n (by omega) (by omega)]
      obtain ⟨h1, h2, h3, h4, h5⟩ := hc
      rcases k_15 (show 1 ≤ n by omega) (show n ≤ 5 by omega) with rfl | rfl | rfl | rfl | rfl
      · rw [pk_shrN hW _ 24 (by decide), pk_andN (by omega) 6 (by decide)]
        congr 1
        simp [wN]
        omega
      · rw [pk_shrN hW _ 18 (by decide), pk_andN (by omega) 6 (by decide)]
        congr 1
        simp [wN]
        omega
      · rw [pk_shrN hW _ 12 (by decide), pk_andN (by omega) 6 (by decide)]
        congr 1
        simp [wN]
        omega
      · rw [pk_shrN hW _ 6 (by decide), pk_andN (by omega) 6 (by decide)]
        congr 1
        simp [wN]
        omega
      · rw [pk_shrN hW _ 0 (by decide), pk_andN (by omega) 6 (by decide)]
        congr 1
        simp [wN]
        omega
  · rw [if_neg h5, if_neg h5]
theorem xor30 {x : Nat} (h : x < 1073741824) : x ^^^ 1073741824 = x + 1073741824 := by
  have h1 : x ^^^ 2 ^ 30 = x ||| 2 ^ 30 := by
    apply Nat.eq_of_testBit_eq
    intro i
    rw [Nat.testBit_xor, Nat.testBit_or, Nat.testBit_two_pow]
    by_cases hi : 30 = i
    · subst hi
      rw [Nat.testBit_lt_two_pow (show x < 2 ^ 30 from h)]
      rfl
    · simp [hi]
  have h2 := or30N h 1
  rw [Nat.one_mul] at h2
  exact h1.trans h2
theorem turn_e {M s : Nat} (hM : M < 1073741824) (hs : s < 2) : nI (M + s * 1073741824) ^^^ (1073741824 : Int32) = nI (M + (1 - s) * 1073741824) := by
  rw [show (1073741824 : Int32) = nI 1073741824 from rfl, nx_xor]
  rcases (show s = 0 ∨ s = 1 by omega) with rfl | rfl
  · rw [show M + 0 * 1073741824 = M by omega, xor30 hM]
  · rw [show M + 1 * 1073741824 = M + 1073741824 by omega, ← xor30 hM, Nat.xor_assoc, Nat.xor_self, Nat.xor_zero]
    congr 1
theorem P_turn {f g b t w : Nat → Int32} (h : Rel f g b) (a : Int32) : f_F_turn f a = f_M_turn g b t w a ∧ Rel (u_F_turn_f f a) (u_M_turn_g g b t w a) b := by
  unfold f_F_turn f_M_turn u_F_turn_f u_M_turn_g
  rw [reg_eq]
  by_cases hr : f_M_isRegister a = 0
  · rw [if_pos hr, if_pos hr, if_pos hr]
    exact ⟨rfl, h⟩
  · rw [if_neg hr, if_neg hr, if_neg hr]
    refine ⟨rfl, ?_⟩
    obtain ⟨j, hj, rfl⟩ := reg_of hr
    obtain ⟨s, c, hs, hc, eg, eb, ef⟩ := h j hj
    have e1 : f j ^^^ (1073741824 : Int32) = nI (wN (1 - s) c) := by rw [ef, w_mg, w_mg, turn_e (mg15 hc) hs]
    have e2 : vp_nar .boolean (if (g j) = 0 then (1 : Int32) else (0 : Int32)) = nI (1 - s) := by
      rw [eg]
      rcases (show s = 0 ∨ s = 1 by omega) with rfl | rfl <;> decide
    rw [nI_clamp (show j < 2 ^ 31 by omega), e1, e2]
    exact Rel_put h (by omega) hc eb (fun _ _ _ _ _ => rfl)
