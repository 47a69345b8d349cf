/-! letters -/
theorem lt_sb : ∀ k, k < 56 → ltS 56 k = sby k := by decide +kernel
theorem ch_sb : ∀ k, k < 56 → (((sby k) &&& (255 : Int32)).toUInt32 % 65536).toInt32 = sby k := by decide +kernel
theorem cdS_c {t u : Nat → Int32} {c : Int32} : ∀ n, (∀ k, k < n → t k = u k) → cdS t c n = cdS u c n := by
  intro n
  induction n with
  | zero => intro _; rfl
  | succ n ih =>
    intro h
    show (if t n = c then nI n else cdS t c n) = (if u n = c then nI n else cdS u c n)
    rw [h n (by omega), ih (fun k hk => h k (by omega))]
theorem cd_tab : ∀ n, n < 256 → f_F_code (nI n) = f_M_code (fun _ => 0) (fun _ => 0) sby (fun _ => 0) (nI n) := by decide +kernel
theorem in_64 {k : Int32} {n : Nat} {M : Int32} (hM : M.toInt = n) (h0 : ¬ k < 0) (h5 : k ≤ M) : ∃ j : Nat, j ≤ n ∧ k = nI j := nI_of2 hM h0 h5
theorem P_letter {g b t w : Nat → Int32} (hT : t = ltS 56) (a : Int32) : f_F_letter a = f_M_letter g b t w a := by
  unfold f_F_letter f_M_letter
  by_cases h0 : a < 0
  · rw [if_pos h0, if_pos h0]
  rw [if_neg h0, if_neg h0]
  by_cases h1 : a ≤ (63 : Int32)
  · rw [if_pos h1, if_pos h1]
    by_cases h2 : (56 : Int32) ≤ a
    · rw [if_pos h2, if_pos h2]
    · rw [if_neg h2, if_neg h2]
      obtain ⟨n, hn, rfl⟩ := vp_in_of (in_56 h0 h2) (by decide)
      unfold f_S_charAt f_Z_charAt
      rw [nI_clamp (by omega), ch_sb n hn, hT, lt_sb n hn]
  · rw [if_neg h1, if_neg h1]
theorem P_code {g b t w : Nat → Int32} (hT : t = ltS 56) (a : Int32) : f_F_code a = f_M_code g b t w a := by
  by_cases h0 : a < 0
  · unfold f_F_code f_M_code
    rw [if_pos h0, if_pos h0]
  by_cases h1 : a ≤ (255 : Int32)
  · obtain ⟨n, hn, rfl⟩ := in_64 (n := 255) (M := 255) (by decide) h0 h1
    rw [cd_tab n (by omega)]
    unfold f_M_code
    rw [if_neg h0, if_pos h1, if_neg h0, if_pos h1, hT]
    exact (cdS_c 56 lt_sb).symm
  · unfold f_F_code f_M_code
    rw [if_neg h0, if_neg h1, if_neg h0, if_neg h1]
