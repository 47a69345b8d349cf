/-! set -/
theorem abs_e {a : Int32} (h1 : -1073741824 < a.toInt) (h2 : a.toInt < 1073741824) : ∃ n : Nat, n < 1073741824 ∧ (if 0 ≤ a then a else (-a)) = nI n := by
  have e0 : (0 : Int32).toInt = 0 := by decide
  by_cases h : 0 ≤ a
  · rw [if_pos h]
    rw [Int32.le_iff_toInt_le] at h
    obtain ⟨n, hn, rfl⟩ := nI_of (x := a) (by rw [Int32.lt_iff_toInt_lt]; omega)
    rw [nI_toInt hn] at h2
    exact ⟨n, by omega, rfl⟩
  · rw [if_neg h]
    rw [Int32.le_iff_toInt_le] at h
    have e1 : (-a).toInt = -a.toInt := by
      rw [Int32.toInt_neg]
      exact Int.bmod_eq_of_le (by omega) (by omega)
    obtain ⟨n, hn, e⟩ := nI_of (x := -a) (by rw [Int32.lt_iff_toInt_lt]; omega)
    rw [e, nI_toInt hn] at e1
    exact ⟨n, by omega, e⟩
def cD (n : Nat) : Nat → Nat := fun k => if k = 5 then n % 64 else if k = 4 then n / 64 % 64 else if k = 3 then n / 64 / 64 % 64 else if k = 2 then n / 64 / 64 / 64 % 64 else n / 64 / 64 / 64 / 64 % 64
theorem cD_ok (n : Nat) : okC (cD n) := by
  refine ⟨?_, ?_, ?_, ?_, ?_⟩ <;> simp [cD] <;> omega
theorem cD_w {n s : Nat} (h : n < 1073741824) : wN s (cD n) = n + s * 1073741824 := by
  simp [wN, cD]
  omega
theorem dv_64 {n : Nat} (h : n < 2 ^ 31) : nI n / (64 : Int32) = nI (n / 64) := pk_div (d := 64) h (by decide) (by decide)
theorem rm_64 {n : Nat} (h : n < 2 ^ 31) : nI n - nI n / (64 : Int32) * (64 : Int32) = nI (n % 64) := pk_rem (d := 64) h (by decide) (by decide)
theorem sg_e (a2 a3 : Int32) : ∃ s : Nat, s < 2 ∧ (if a2 < 0 then (1 : Int32) else (if a2 = 0 then (if a3 = 0 then (0 : Int32) else (1 : Int32)) else (0 : Int32))) = nI s := by
  repeat' split
  · exact ⟨1, by decide, rfl⟩
  · exact ⟨0, by decide, rfl⟩
  · exact ⟨1, by decide, rfl⟩
  · exact ⟨0, by decide, rfl⟩
theorem P_set {f g b t w : Nat → Int32} (h : Rel f g b) (a1 a2 a3 : Int32) : f_F_set f a1 a2 a3 = f_M_set g b t w a1 a2 a3 ∧ Rel (u_F_set_f f a1 a2 a3) (u_M_set_g g b t w a1 a2 a3) (u_M_set_b g b t w a1 a2 a3) := by
  unfold f_F_set f_M_set u_F_set_f u_M_set_g u_M_set_b
  rw [reg_eq]
  have c1 : (1073741823 : Int32).toInt = 1073741823 := by decide
  have c2 : (-1073741823 : Int32).toInt = -1073741823 := by decide
  have c3 : (1073741824 : Int32).toInt = 1073741824 := by decide
  have c4 : (-1073741824 : Int32).toInt = -1073741824 := by decide
  by_cases hr : f_M_isRegister a1 = 0
  · rw [if_pos hr, if_pos hr, if_pos hr, if_pos hr, if_pos hr]
    exact ⟨rfl, h⟩
  rw [if_neg hr, if_neg hr, if_neg hr, if_neg hr, if_neg hr]
  by_cases h1 : -1073741824 < a2.toInt
  · by_cases h2 : a2.toInt < 1073741824
    · have q1 : ¬ (1073741823 : Int32) < a2 := by rw [Int32.lt_iff_toInt_lt]; omega
      have q2 : (-1073741823 : Int32) ≤ a2 := by rw [Int32.le_iff_toInt_le]; omega
      have q3 : ¬ a2 ≤ (-1073741824 : Int32) := by rw [Int32.le_iff_toInt_le]; omega
      have q4 : a2 < (1073741824 : Int32) := by rw [Int32.lt_iff_toInt_lt]; omega
      simp only [if_neg q1, if_pos q2, if_neg q3, if_pos q4]
      refine ⟨by trivial, ?_⟩
      obtain ⟨j, hj, rfl⟩ := reg_of hr
      obtain ⟨n, hn, en⟩ := abs_e h1 h2
      obtain ⟨s, hs, es⟩ := sg_e a2 a3
      have i1 : (((6 : Int32) * nI j) + (1 : Int32)).toNatClampNeg = 6 * j + 1 := ix_e (k := 1) hj (by decide)
      have i2 : (((6 : Int32) * nI j) + (2 : Int32)).toNatClampNeg = 6 * j + 2 := ix_e (k := 2) hj (by decide)
      have i3 : (((6 : Int32) * nI j) + (3 : Int32)).toNatClampNeg = 6 * j + 3 := ix_e (k := 3) hj (by decide)
      have i4 : (((6 : Int32) * nI j) + (4 : Int32)).toNatClampNeg = 6 * j + 4 := ix_e (k := 4) hj (by decide)
      have i5 : (((6 : Int32) * nI j) + (5 : Int32)).toNatClampNeg = 6 * j + 5 := ix_e (k := 5) hj (by decide)
      rw [nI_clamp (show j < 2 ^ 31 by omega), i1, i2, i3, i4, i5, en, es]
      have e1 : nI n ||| (if nI s = 0 then (0 : Int32) else (1073741824 : Int32)) = nI (wN s (cD n)) := by
        rw [cD_w hn, ← or30 hn]
        rcases (show s = 0 ∨ s = 1 by omega) with rfl | rfl <;> rfl
      have e2 : vp_nar .boolean (nI s) = nI s := by
        rcases (show s = 0 ∨ s = 1 by omega) with rfl | rfl <;> decide
      rw [e1, e2]
      have e3 : upd (upd (upd (upd (upd b (6 * j + 5) (nI n - nI n / (64 : Int32) * (64 : Int32))) (6 * j + 4) ((nI n / (64 : Int32)) - (nI n / (64 : Int32)) / (64 : Int32) * (64 : Int32))) (6 * j + 3) (((nI n / (64 : Int32)) / (64 : Int32)) - ((nI n / (64 : Int32)) / (64 : Int32)) / (64 : Int32) * (64 : Int32))) (6 * j + 2) ((((nI n / (64 : Int32)) / (64 : Int32)) / (64 : Int32)) - (((nI n / (64 : Int32)) / (64 : Int32)) / (64 : Int32)) / (64 : Int32) * (64 : Int32))) (6 * j + 1) (((((nI n / (64 : Int32)) / (64 : Int32)) / (64 : Int32)) / (64 : Int32)) - ((((nI n / (64 : Int32)) / (64 : Int32)) / (64 : Int32)) / (64 : Int32)) / (64 : Int32) * (64 : Int32)) = nest5r b j (fun k => nI (cD n k)) := by
        rw [rm_64 (n := n) (by omega), dv_64 (n := n) (by omega), rm_64 (n := n / 64) (by omega), dv_64 (n := n / 64) (by omega), rm_64 (n := n / 64 / 64) (by omega), dv_64 (n := n / 64 / 64) (by omega), rm_64 (n := n / 64 / 64 / 64) (by omega), dv_64 (n := n / 64 / 64 / 64) (by omega), rm_64 (n := n / 64 / 64 / 64 / 64) (by omega)]
        rfl
      rw [e3]
      exact Rel_put h hs (cD_ok n) nest5r_at nest5r_off
    · have q1 : (1073741823 : Int32) < a2 := by rw [Int32.lt_iff_toInt_lt]; omega
      have q3 : ¬ a2 ≤ (-1073741824 : Int32) := by rw [Int32.le_iff_toInt_le]; omega
      have q4 : ¬ a2 < (1073741824 : Int32) := by rw [Int32.lt_iff_toInt_lt]; omega
      simp only [if_pos q1, if_neg q3, if_neg q4]
      exact ⟨by trivial, h⟩
  · have q1 : ¬ (1073741823 : Int32) < a2 := by rw [Int32.lt_iff_toInt_lt]; omega
    have q2 : ¬ (-1073741823 : Int32) ≤ a2 := by rw [Int32.le_iff_toInt_le]; omega
    have q3 : a2 ≤ (-1073741824 : Int32) := by rw [Int32.le_iff_toInt_le]; omega
    simp only [if_neg q1, if_neg q2, if_pos q3]
    exact ⟨by trivial, h⟩
/-! load, store, compare -/
theorem fl_8 {L R : Nat} (hL : L ≤ R) (hR : R ≤ 5) : ((8 : Int32) ≤ nI (8 * L + R)) ↔ ¬ L = 0 := by
  rw [show (8 : Int32) = nI 8 from rfl, nI_leI (by decide) (by omega)]
  omega
theorem P_load {f g b t w : Nat → Int32} (h : Rel f g b) (a1 a2 a3 : Int32) : f_F_load f a1 a2 a3 = f_M_load g b t w a1 a2 a3 ∧ Rel (u_F_load_f f a1 a2 a3) (u_M_load_g g b t w a1 a2 a3) (u_M_load_b g b t w a1 a2 a3) := by
  unfold f_F_load f_M_load u_F_load_f u_M_load_g u_M_load_b
  by_cases hm : f_M_may a1 a2 a3 = 0
  · rw [sel_0 hm, sel_0 hm, if_pos hm, if_pos hm, if_pos hm]
    exact ⟨rfl, h⟩
  rw [sel_1 hm, sel_1 hm, if_neg hm, if_neg hm, if_neg hm]
  refine ⟨rfl, ?_⟩
  obtain ⟨j, hj, rfl⟩ := reg_of (may_1 hm)
  obtain ⟨i, hi, rfl⟩ := reg_of (may_2 hm)
  obtain ⟨L, R, hL, hR, rfl⟩ := is_of (may_3 hm)
  obtain ⟨s, c, hs, hc, eg, eb, ef⟩ := h i hi
  rw [r_e hR (by omega), f_e hR (by omega), nI_clamp (show j < 2 ^ 31 by omega), nI_clamp (show i < 2 ^ 31 by omega), ef, ld_w hs hc hL hR, eg]
  have hF : 0 < (if L = 0 then 1 else L) := by split <;> omega
  have hF6 : (if L = 0 then 1 else L) < 6 := by split <;> omega
  have e2 : vp_nar .boolean (if (8 : Int32) ≤ nI (8 * L + R) then (0 : Int32) else (if nI s = 0 then (0 : Int32) else (1 : Int32))) = nI (if L = 0 then s else 0) := by
    by_cases h0 : L = 0
    · rw [if_neg (fun q => (fl_8 hL hR).mp q h0), if_pos h0]
      rcases (show s = 0 ∨ s = 1 by omega) with rfl | rfl <;> decide
    · rw [if_pos ((fl_8 hL hR).mpr h0), if_neg h0]
      decide
  have hv : ∀ k, 1 ≤ k → k ≤ 5 → (if ((nI k - (5 : Int32)) + nI R) < nI (if L = 0 then 1 else L) then (0 : Int32) else (b (((6 : Int32) * nI i) + ((nI k - (5 : Int32)) + nI R)).toNatClampNeg)) = nI (cL c (if L = 0 then 1 else L) R k) := by
    intro k k1 k5
    obtain ⟨t1, t2⟩ := tb_L k (by omega) R (by omega) _ hF6 hF
    unfold cL
    by_cases hq : k + R < 5 + (if L = 0 then 1 else L)
    · rw [if_pos (t1.mpr hq), if_pos hq]
      rfl
    · rw [if_neg (fun z => hq (t1.mp z)), if_neg hq, t2 (by omega), ix_e hi (by omega), eb _ (by omega) (by omega)]
  generalize hFe : (if L = 0 then 1 else L) = F at *
  have i1 : (((6 : Int32) * nI j) + (1 : Int32)).toNatClampNeg = 6 * j + 1 := ix_e (k := 1) hj (by decide)
  have i2 : (((6 : Int32) * nI j) + (2 : Int32)).toNatClampNeg = 6 * j + 2 := ix_e (k := 2) hj (by decide)
  have i3 : (((6 : Int32) * nI j) + (3 : Int32)).toNatClampNeg = 6 * j + 3 := ix_e (k := 3) hj (by decide)
  have i4 : (((6 : Int32) * nI j) + (4 : Int32)).toNatClampNeg = 6 * j + 4 := ix_e (k := 4) hj (by decide)
  have i5 : (((6 : Int32) * nI j) + (5 : Int32)).toNatClampNeg = 6 * j + 5 := ix_e (k := 5) hj (by decide)
  have v1 : (if (((1 : Int32) - (5 : Int32)) + nI R) < nI F then (0 : Int32) else (b (((6 : Int32) * nI i) + (((1 : Int32) - (5 : Int32)) + nI R)).toNatClampNeg)) = nI (cL c F R 1) := hv 1 (by decide) (by decide)
  have v2 : (if (((2 : Int32) - (5 : Int32)) + nI R) < nI F then (0 : Int32) else (b (((6 : Int32) * nI i) + (((2 : Int32) - (5 : Int32)) + nI R)).toNatClampNeg)) = nI (cL c F R 2) := hv 2 (by decide) (by decide)
  have v3 : (if (((3 : Int32) - (5 : Int32)) + nI R) < nI F then (0 : Int32) else (b (((6 : Int32) * nI i) + (((3 : Int32) - (5 : Int32)) + nI R)).toNatClampNeg)) = nI (cL c F R 3) := hv 3 (by decide) (by decide)
  have v4 : (if (((4 : Int32) - (5 : Int32)) + nI R) < nI F then (0 : Int32) else (b (((6 : Int32) * nI i) + (((4 : Int32) - (5 : Int32)) + nI R)).toNatClampNeg)) = nI (cL c F R 4) := hv 4 (by decide) (by decide)
  have v5 : (if (((5 : Int32) - (5 : Int32)) + nI R) < nI F then (0 : Int32) else (b (((6 : Int32) * nI i) + (((5 : Int32) - (5 : Int32)) + nI R)).toNatClampNeg)) = nI (cL c F R 5) := hv 5 (by decide) (by decide)
  rw [e2, i1, i2, i3, i4, i5, v1, v2, v3, v4, v5]
  exact Rel_put (b' := nest5 b j (fun k => nI (cL c F R k))) h (by split <;> omega) (cL_ok hc hF hR) nest5_at nest5_off
theorem P_store {f g b t w : Nat → Int32} (h : Rel f g b) (a1 a2 a3 : Int32) : f_F_store f a1 a2 a3 = f_M_store g b t w a1 a2 a3 ∧ Rel (u_F_store_f f a1 a2 a3) (u_M_store_g g b t w a1 a2 a3) (u_M_store_b g b t w a1 a2 a3) := by
  unfold f_F_store f_M_store u_F_store_f u_M_store_g u_M_store_b
  by_cases hm : f_M_may a1 a2 a3 = 0
  · rw [sel_0 hm, sel_0 hm, if_pos hm, if_pos hm, if_pos hm]
    exact ⟨rfl, h⟩
  rw [sel_1 hm, sel_1 hm, if_neg hm, if_neg hm, if_neg hm]
  refine ⟨rfl, ?_⟩
  obtain ⟨j, hj, rfl⟩ := reg_of (may_1 hm)
  obtain ⟨i, hi, rfl⟩ := reg_of (may_2 hm)
  obtain ⟨L, R, hL, hR, rfl⟩ := is_of (may_3 hm)
  obtain ⟨s2, c, hs2, hc, eg2, eb2, ef2⟩ := h i hi
  obtain ⟨s1, d, hs1, hd, eg1, eb1, ef1⟩ := h j hj
  rw [r_e hR (by omega), f_e hR (by omega), nI_clamp (show j < 2 ^ 31 by omega), nI_clamp (show i < 2 ^ 31 by omega), ef2, ef1, st_w hs1 hs2 hc hd hL hR, eg1, eg2]
  have hF : 0 < (if L = 0 then 1 else L) := by split <;> omega
  have hF6 : (if L = 0 then 1 else L) < 6 := by split <;> omega
  have e2 : vp_nar .boolean (if (8 : Int32) ≤ nI (8 * L + R) then nI s1 else nI s2) = nI (if L = 0 then s2 else s1) := by
    by_cases h0 : L = 0
    · rw [if_neg (fun q => (fl_8 hL hR).mp q h0), if_pos h0]
      rcases (show s2 = 0 ∨ s2 = 1 by omega) with rfl | rfl <;> decide
    · rw [if_pos ((fl_8 hL hR).mpr h0), if_neg h0]
      rcases (show s1 = 0 ∨ s1 = 1 by omega) with rfl | rfl <;> decide
  have hv : ∀ k, 1 ≤ k → k ≤ 5 → (if (if nI k < nI (if L = 0 then 1 else L) then (0 : Int32) else (if nI R < nI k then (0 : Int32) else (1 : Int32))) = 0 then (b (((6 : Int32) * nI j) + nI k).toNatClampNeg) else (b (((((6 : Int32) * nI i) + nI k) + (5 : Int32)) - nI R).toNatClampNeg)) = nI (cS c d (if L = 0 then 1 else L) R k) := by
    intro k k1 k5
    unfold cS
    by_cases hq : k < (if L = 0 then 1 else L)
    · rw [if_pos ((nI_ltI (by omega) (by omega)).mpr hq), if_pos hq, if_pos rfl, ix_e hj (by omega), eb1 k k1 k5]
    · rw [if_neg (fun z => hq ((nI_ltI (by omega) (by omega)).mp z)), if_neg hq]
      by_cases hp : R < k
      · rw [if_pos ((nI_ltI (by omega) (by omega)).mpr hp), if_pos hp, if_pos rfl, ix_e hj (by omega), eb1 k k1 k5]
      · rw [if_neg (fun z => hp ((nI_ltI (by omega) (by omega)).mp z)), if_neg hp, if_neg (by decide)]
        have e : (6 : Int32) * nI i + nI k + (5 : Int32) - nI R = nI (6 * i + (k + 5 - R)) := by
          rw [show (6 : Int32) = nI 6 from rfl, show (5 : Int32) = nI 5 from rfl, pk_mul, nI_add, nI_add, pk_sub (by omega)]
          congr 1
          omega
        rw [e, nI_clamp (by omega), eb2 _ (by omega) (by omega)]
  generalize hFe : (if L = 0 then 1 else L) = F at *
  have i1 : (((6 : Int32) * nI j) + (1 : Int32)).toNatClampNeg = 6 * j + 1 := ix_e (k := 1) hj (by decide)
  have i2 : (((6 : Int32) * nI j) + (2 : Int32)).toNatClampNeg = 6 * j + 2 := ix_e (k := 2) hj (by decide)
  have i3 : (((6 : Int32) * nI j) + (3 : Int32)).toNatClampNeg = 6 * j + 3 := ix_e (k := 3) hj (by decide)
  have i4 : (((6 : Int32) * nI j) + (4 : Int32)).toNatClampNeg = 6 * j + 4 := ix_e (k := 4) hj (by decide)
  have i5 : (((6 : Int32) * nI j) + (5 : Int32)).toNatClampNeg = 6 * j + 5 := ix_e (k := 5) hj (by decide)
  have v1 : (if (if (1 : Int32) < nI F then (0 : Int32) else (if nI R < (1 : Int32) then (0 : Int32) else (1 : Int32))) = 0 then (b (((6 : Int32) * nI j) + (1 : Int32)).toNatClampNeg) else (b (((((6 : Int32) * nI i) + (1 : Int32)) + (5 : Int32)) - nI R).toNatClampNeg)) = nI (cS c d F R 1) := hv 1 (by decide) (by decide)
  have v2 : (if (if (2 : Int32) < nI F then (0 : Int32) else (if nI R < (2 : Int32) then (0 : Int32) else (1 : Int32))) = 0 then (b (((6 : Int32) * nI j) + (2 : Int32)).toNatClampNeg) else (b (((((6 : Int32) * nI i) + (2 : Int32)) + (5 : Int32)) - nI R).toNatClampNeg)) = nI (cS c d F R 2) := hv 2 (by decide) (by decide)
  have v3 : (if (if (3 : Int32) < nI F then (0 : Int32) else (if nI R < (3 : Int32) then (0 : Int32) else (1 : Int32))) = 0 then (b (((6 : Int32) * nI j) + (3 : Int32)).toNatClampNeg) else (b (((((6 : Int32) * nI i) + (3 : Int32)) + (5 : Int32)) - nI R).toNatClampNeg)) = nI (cS c d F R 3) := hv 3 (by decide) (by decide)
  have v4 : (if (if (4 : Int32) < nI F then (0 : Int32) else (if nI R < (4 : Int32) then (0 : Int32) else (1 : Int32))) = 0 then (b (((6 : Int32) * nI j) + (4 : Int32)).toNatClampNeg) else (b (((((6 : Int32) * nI i) + (4 : Int32)) + (5 : Int32)) - nI R).toNatClampNeg)) = nI (cS c d F R 4) := hv 4 (by decide) (by decide)
  have v5 : (if (if (5 : Int32) < nI F then (0 : Int32) else (if nI R < (5 : Int32) then (0 : Int32) else (1 : Int32))) = 0 then (b (((6 : Int32) * nI j) + (5 : Int32)).toNatClampNeg) else (b (((((6 : Int32) * nI i) + (5 : Int32)) + (5 : Int32)) - nI R).toNatClampNeg)) = nI (cS c d F R 5) := hv 5 (by decide) (by decide)
  rw [e2, v1, v2, v3, v4, v5, i1, i2, i3, i4, i5]
  exact Rel_put (b' := nest5 b j (fun k => nI (cS c d F R k))) h (by split <;> omega) (cS_ok hc hd hF hR) nest5_at nest5_off
theorem mk_e {g b t w : Nat → Int32} {j L R s : Nat} {c : Nat → Nat} (hj : j < 16) (hs : s < 2) (eg : g j = nI s) (hb : ∀ k, 1 ≤ k → k ≤ 5 → b (6 * j + k) = nI (c k)) (hL : L ≤ R) (hR : R ≤ 5) :
    (if (8 : Int32) ≤ nI (8 * L + R) then (f_M_number g b t w (nI j) (f_M_first (nI (8 * L + R))) (nI (8 * L + R) - nI (8 * L + R) / (8 : Int32) * (8 : Int32))) else (if (g (nI j).toNatClampNeg) = 0 then (f_M_number g b t w (nI j) (f_M_first (nI (8 * L + R))) (nI (8 * L + R) - nI (8 * L + R) / (8 : Int32) * (8 : Int32))) else (-(f_M_number g b t w (nI j) (f_M_first (nI (8 * L + R))) (nI (8 * L + R) - nI (8 * L + R) / (8 : Int32) * (8 : Int32))))))
      = if (if L = 0 then s else 0) = 0 then nI (mg c (if L = 0 then 1 else L) R) else -nI (mg c (if L = 0 then 1 else L) R) := by
  rw [r_e hR (by omega), f_e hR (by omega), mn_e hj hb hL hR, nI_clamp (show j < 2 ^ 31 by omega), eg]
  by_cases h0 : L = 0
  · subst h0
    rw [if_neg (fun q => (fl_8 hL hR).mp q rfl)]
    rcases (show s = 0 ∨ s = 1 by omega) with rfl | rfl
    · rw [if_pos nI_0, if_pos (show (if (0 : Nat) = 0 then (0 : Nat) else 0) = 0 from rfl)]
    · rw [if_neg (show ¬ nI 1 = 0 by decide), if_neg (show ¬ (if (0 : Nat) = 0 then (1 : Nat) else 0) = 0 by decide)]
  · rw [if_pos ((fl_8 hL hR).mpr h0), if_pos (show (if L = 0 then s else 0) = 0 by rw [if_neg h0])]
theorem P_compare {f g b t w : Nat → Int32} (h : Rel f g b) (a1 a2 a3 : Int32) : f_F_compare f a1 a2 a3 = f_M_compare g b t w a1 a2 a3 := by
  unfold f_F_compare f_M_compare
  by_cases hm : f_M_may a1 a2 a3 = 0
  · rw [sel_0 hm, if_pos hm]
  rw [sel_1 hm, if_neg hm]
  obtain ⟨j, hj, rfl⟩ := reg_of (may_1 hm)
  obtain ⟨i, hi, rfl⟩ := reg_of (may_2 hm)
  obtain ⟨L, R, hL, hR, rfl⟩ := is_of (may_3 hm)
  obtain ⟨s2, c, hs2, hc, eg2, eb2, ef2⟩ := h i hi
  obtain ⟨s1, d, hs1, hd, eg1, eb1, ef1⟩ := h j hj
  rw [mk_e hj hs1 eg1 eb1 hL hR, mk_e hi hs2 eg2 eb2 hL hR, nI_clamp (show j < 2 ^ 31 by omega), nI_clamp (show i < 2 ^ 31 by omega), ef2, ef1, cn_e hs1 hd hL hR, cn_e hs2 hc hL hR]
