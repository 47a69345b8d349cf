/-! words as numbers: a sign s < 2 and bytes c 1 .. c 5 < 64 -/
def wN (s : Nat) (c : Nat → Nat) : Nat := s * 1073741824 + c 1 * 16777216 + c 2 * 262144 + c 3 * 4096 + c 4 * 64 + c 5
def okC (c : Nat → Nat) : Prop := c 1 < 64 ∧ c 2 < 64 ∧ c 3 < 64 ∧ c 4 < 64 ∧ c 5 < 64
def Wd (f g b : Nat → Int32) (j s : Nat) (c : Nat → Nat) : Prop := s < 2 ∧ okC c ∧ g j = nI s ∧ (∀ k, 1 ≤ k → k ≤ 5 → b (6 * j + k) = nI (c k)) ∧ f j = nI (wN s c)
def Rel (f g b : Nat → Int32) : Prop := ∀ j, j < 16 → ∃ (s : Nat) (c : Nat → Nat), Wd f g b j s c
theorem wN_lt {s : Nat} {c : Nat → Nat} (hs : s < 2) (hc : okC c) : wN s c < 2147483648 := by
  obtain ⟨h1, h2, h3, h4, h5⟩ := hc
  unfold wN
  omega
theorem Rel_0 : Rel (fun _ => 0) (fun _ => 0) (fun _ => 0) := fun j hj => ⟨0, fun _ => 0, by decide, ⟨by decide, by decide, by decide, by decide, by decide⟩, rfl, fun _ _ _ => rfl, rfl⟩
theorem Rel_put {f g b b' : Nat → Int32} {j s : Nat} {c : Nat → Nat} (h : Rel f g b) (hs : s < 2) (hc : okC c) (e : ∀ k, 1 ≤ k → k ≤ 5 → b' (6 * j + k) = nI (c k))
    (ho : ∀ i k, i ≠ j → 1 ≤ k → k ≤ 5 → b' (6 * i + k) = b (6 * i + k)) : Rel (upd f j (nI (wN s c))) (upd g j (nI s)) b' := by
  intro i hi
  by_cases hij : i = j
  · subst hij
    exact ⟨s, c, hs, hc, pk_us, e, pk_us⟩
  · obtain ⟨s0, c0, h1, h2, h3, h4, h5⟩ := h i hi
    exact ⟨s0, c0, h1, h2, by rw [pk_un hij]; exact h3, fun k k1 k5 => by rw [ho i k hij k1 k5]; exact h4 k k1 k5, by rw [pk_un hij]; exact h5⟩
theorem Rel_same {f g b f' g' b' : Nat → Int32} (h : Rel f g b) (e1 : f' = f) (e2 : g' = g) (e3 : b' = b) : Rel f' g' b' := by
  subst e1; subst e2; subst e3
  exact h
def nest5 (b : Nat → Int32) (j : Nat) (v : Nat → Int32) : Nat → Int32 := upd (upd (upd (upd (upd b (6 * j + 1) (v 1)) (6 * j + 2) (v 2)) (6 * j + 3) (v 3)) (6 * j + 4) (v 4)) (6 * j + 5) (v 5)
def nest5r (b : Nat → Int32) (j : Nat) (v : Nat → Int32) : Nat → Int32 := upd (upd (upd (upd (upd b (6 * j + 5) (v 5)) (6 * j + 4) (v 4)) (6 * j + 3) (v 3)) (6 * j + 2) (v 2)) (6 * j + 1) (v 1)
theorem k_15 {k : Nat} (h1 : 1 ≤ k) (h5 : k ≤ 5) : k = 1 ∨ k = 2 ∨ k = 3 ∨ k = 4 ∨ k = 5 := by omega
theorem nest5_at {b : Nat → Int32} {j : Nat} {v : Nat → Int32} : ∀ k, 1 ≤ k → k ≤ 5 → nest5 b j v (6 * j + k) = v k := by
  intro k h1 h5
  rcases k_15 h1 h5 with rfl | rfl | rfl | rfl | rfl <;> simp [nest5, upd]
theorem nest5r_at {b : Nat → Int32} {j : Nat} {v : Nat → Int32} : ∀ k, 1 ≤ k → k ≤ 5 → nest5r b j v (6 * j + k) = v k := by
  intro k h1 h5
  rcases k_15 h1 h5 with rfl | rfl | rfl | rfl | rfl <;> simp [nest5r, upd]
theorem nest5_off {b : Nat → Int32} {j : Nat} {v : Nat → Int32} : ∀ i k, i ≠ j → 1 ≤ k → k ≤ 5 → nest5 b j v (6 * i + k) = b (6 * i + k) := by
  intro i k hij h1 h5
  have q1 : 6 * i + k ≠ 6 * j + 1 := by omega
  have q2 : 6 * i + k ≠ 6 * j + 2 := by omega
  have q3 : 6 * i + k ≠ 6 * j + 3 := by omega
  have q4 : 6 * i + k ≠ 6 * j + 4 := by omega
  have q5 : 6 * i + k ≠ 6 * j + 5 := by omega
  simp only [nest5, upd, if_neg q1, if_neg q2, if_neg q3, if_neg q4, if_neg q5]
theorem nest5r_off {b : Nat → Int32} {j : Nat} {v : Nat → Int32} : ∀ i k, i ≠ j → 1 ≤ k → k ≤ 5 → nest5r b j v (6 * i + k) = b (6 * i + k) := by
  intro i k hij h1 h5
  have q1 : 6 * i + k ≠ 6 * j + 1 := by omega
  have q2 : 6 * i + k ≠ 6 * j + 2 := by omega
  have q3 : 6 * i + k ≠ 6 * j + 3 := by omega
  have q4 : 6 * i + k ≠ 6 * j + 4 := by omega
  have q5 : 6 * i + k ≠ 6 * j + 5 := by omega
  simp only [nest5r, upd, if_neg q1, if_neg q2, if_neg q3, if_neg q4, if_neg q5]
/-! bits -/
theorem nx_and (a b : Nat) : nI a &&& nI b = nI (a &&& b) := by
  apply Int32.toBitVec_inj.1
  show BitVec.ofNat 32 a &&& BitVec.ofNat 32 b = BitVec.ofNat 32 (a &&& b)
  apply BitVec.eq_of_getLsbD_eq
  intro i hi
  simp [hi]
theorem nx_or (a b : Nat) : nI a ||| nI b = nI (a ||| b) := by
  apply Int32.toBitVec_inj.1
  show BitVec.ofNat 32 a ||| BitVec.ofNat 32 b = BitVec.ofNat 32 (a ||| b)
  apply BitVec.eq_of_getLsbD_eq
  intro i hi
  simp [hi]
theorem nx_xor (a b : Nat) : nI a ^^^ nI b = nI (a ^^^ b) := by
  apply Int32.toBitVec_inj.1
  show BitVec.ofNat 32 a ^^^ BitVec.ofNat 32 b = BitVec.ofNat 32 (a ^^^ b)
  apply BitVec.eq_of_getLsbD_eq
  intro i hi
  simp [hi]
theorem or30N {a : Nat} (ha : a < 1073741824) (s : Nat) : a ||| (s * 1073741824) = a + s * 1073741824 := by
  have h : 1073741824 * s + a = 1073741824 * s ||| a := Nat.two_pow_add_eq_or_of_lt (i := 30) (b := a) ha s
  rw [Nat.or_comm, Nat.mul_comm s, ← h, Nat.add_comm]
theorem or30 {a s : Nat} (ha : a < 1073741824) : nI a ||| nI (s * 1073741824) = nI (a + s * 1073741824) := by
  rw [nx_or, or30N ha]
theorem blkand (W a b : Nat) : W &&& ((2 ^ b - 1) * 2 ^ a) = W / 2 ^ a % 2 ^ b * 2 ^ a := by
  apply Nat.eq_of_testBit_eq
  intro i
  rw [Nat.testBit_and, Nat.testBit_mul_two_pow, Nat.testBit_mul_two_pow, Nat.testBit_two_pow_sub_one, Nat.testBit_mod_two_pow, Nat.testBit_div_two_pow]
  rcases Nat.lt_or_ge i a with h | h
  · rw [decide_eq_false (Nat.not_le.mpr h), Bool.false_and, Bool.false_and, Bool.and_false]
  · rw [decide_eq_true h, Bool.true_and, Bool.true_and, show i - a + a = i by omega, Bool.and_comm]
theorem and30 {W : Nat} (h : W < 2147483648) : nI W &&& (1073741824 : Int32) = nI (W / 1073741824 * 1073741824) := by
  show nI W &&& nI 1073741824 = _
  have h1 : W &&& 1073741824 = W / 1073741824 % 2 * 1073741824 := blkand W 30 1
  rw [nx_and, h1, show W / 1073741824 % 2 = W / 1073741824 by omega]
theorem andnot (x m : Int32) : x &&& (m ^^^ (-1 : Int32)) = x - (x &&& m) := by
  apply Int32.toBitVec_inj.1
  show x.toBitVec &&& (m.toBitVec ^^^ (-1 : Int32).toBitVec) = x.toBitVec - (x.toBitVec &&& m.toBitVec)
  rw [show (-1 : Int32).toBitVec = BitVec.allOnes 32 from by decide, BitVec.xor_allOnes]
  generalize x.toBitVec = X
  generalize m.toBitVec = Y
  have h : (X &&& Y) &&& (X &&& ~~~Y) = 0#32 := by
    apply BitVec.eq_of_getLsbD_eq
    intro i hi
    simp only [BitVec.getLsbD_and, BitVec.getLsbD_not, BitVec.getLsbD_zero, hi, decide_true, Bool.true_and]
    cases X.getLsbD i <;> cases Y.getLsbD i <;> rfl
  have h3 : (X &&& Y) ||| (X &&& ~~~Y) = X := by
    apply BitVec.eq_of_getLsbD_eq
    intro i hi
    simp only [BitVec.getLsbD_and, BitVec.getLsbD_or, BitVec.getLsbD_not, hi, decide_true, Bool.true_and]
    cases X.getLsbD i <;> cases Y.getLsbD i <;> rfl
  have h2 := BitVec.add_eq_or_of_and_eq_zero _ _ h
  rw [h3] at h2
  generalize X &&& Y = A at h2 ⊢
  generalize X &&& ~~~Y = B at h2 ⊢
  rw [← h2, BitVec.add_comm, BitVec.add_sub_cancel]
theorem blkor {hi lo y a c : Nat} (h1 : lo < 2 ^ a) (h2 : y * 2 ^ a + lo < 2 ^ c) : (hi * 2 ^ c + lo) ||| (y * 2 ^ a) = hi * 2 ^ c + y * 2 ^ a + lo := by
  have e1 : 2 ^ c * hi + lo = 2 ^ c * hi ||| lo := Nat.two_pow_add_eq_or_of_lt (Nat.lt_of_le_of_lt (Nat.le_add_left _ _) h2) hi
  have e2 : 2 ^ a * y + lo = 2 ^ a * y ||| lo := Nat.two_pow_add_eq_or_of_lt h1 y
  have e3 : 2 ^ c * hi + (2 ^ a * y + lo) = 2 ^ c * hi ||| (2 ^ a * y + lo) := Nat.two_pow_add_eq_or_of_lt (by rw [Nat.mul_comm (2 ^ a)]; exact h2) hi
  rw [Nat.mul_comm hi, Nat.mul_comm y, e1, Nat.or_assoc, Nat.or_comm lo, ← e2, ← e3, Nat.add_assoc]
theorem splitW (W a b : Nat) : W = W / 2 ^ (a + b) * 2 ^ (a + b) + W / 2 ^ a % 2 ^ b * 2 ^ a + W % 2 ^ a := by
  have q1 := Nat.div_add_mod W (2 ^ a)
  have q2 := Nat.div_add_mod (W / 2 ^ a) (2 ^ b)
  rw [Nat.div_div_eq_div_mul, ← Nat.pow_add] at q2
  have e2 : 2 ^ a * (W / 2 ^ a) = W / 2 ^ (a + b) * 2 ^ (a + b) + W / 2 ^ a % 2 ^ b * 2 ^ a := by
    have q3 : 2 ^ a * (2 ^ b * (W / 2 ^ (a + b)) + W / 2 ^ a % 2 ^ b) = W / 2 ^ (a + b) * 2 ^ (a + b) + W / 2 ^ a % 2 ^ b * 2 ^ a := by
      rw [Nat.mul_add, ← Nat.mul_assoc, ← Nat.pow_add, Nat.mul_comm (2 ^ (a + b)), Nat.mul_comm (2 ^ a) (_ % _)]
    rw [← q3, q2]
  omega
/-- a block of b bits at a is put anew -/
theorem st_1 {W1 W2 a b : Nat} {m mk sh : Int32} (h1 : W1 < 2147483648) (h2 : W2 < 2147483648) (hb : b ≤ 30) (hab : a + b ≤ 30) (hmk : mk.toBitVec.toNat = 2 ^ b - 1) (hsh : (sh.toBitVec.smod 32).toNat = a) (hm : m = nI ((2 ^ b - 1) * 2 ^ a)) :
    (nI W1 &&& (m ^^^ (-1 : Int32))) ||| ((nI W2 &&& mk) <<< sh) = nI (W1 / 2 ^ (a + b) * 2 ^ (a + b) + W2 % 2 ^ b * 2 ^ a + W1 % 2 ^ a) := by
  have hs := splitW W1 a b
  have hp : (2 : Nat) ^ (a + b) ≤ 2 ^ 30 := Nat.pow_le_pow_right (by decide) hab
  have hpa : (2 : Nat) ^ (a + b) = 2 ^ b * 2 ^ a := by rw [Nat.pow_add, Nat.mul_comm]
  have hy : W2 % 2 ^ b < 2 ^ b := Nat.mod_lt _ (Nat.two_pow_pos b)
  have hlo : W1 % 2 ^ a < 2 ^ a := Nat.mod_lt _ (Nat.two_pow_pos a)
  have hyb : W2 % 2 ^ b * 2 ^ a + 2 ^ a ≤ 2 ^ (a + b) := by
    rw [hpa, ← Nat.succ_mul]
    exact Nat.mul_le_mul_right _ hy
  rw [andnot, hm, nx_and, blkand, pk_sub (by omega), pk_andN (by omega) b hmk, pk_shlN sh a hsh (by omega), nx_or]
  rw [show W1 - W1 / 2 ^ a % 2 ^ b * 2 ^ a = W1 / 2 ^ (a + b) * 2 ^ (a + b) + W1 % 2 ^ a by omega, blkor hlo (by omega)]
theorem st_0 {W1 W2 a b : Nat} {m mk sh : Int32} (h1 : W1 < 2147483648) (h2 : W2 < 2147483648) (hab : a + b = 30) (hmk : mk.toBitVec.toNat = 2 ^ b - 1) (hsh : (sh.toBitVec.smod 32).toNat = a) (hm : m = nI ((2 ^ (b + 1) - 1) * 2 ^ a)) :
    ((nI W1 &&& (m ^^^ (-1 : Int32))) ||| ((nI W2 &&& mk) <<< sh)) ||| (nI W2 &&& (1073741824 : Int32)) = nI (W2 % 2 ^ b * 2 ^ a + W1 % 2 ^ a + W2 / 1073741824 * 1073741824) := by
  have hs := splitW W1 a (b + 1)
  have hp : (2 : Nat) ^ (a + b) = 2 ^ 30 := by rw [hab]
  have hp1 : (2 : Nat) ^ (a + (b + 1)) = 2147483648 := by rw [show a + (b + 1) = 31 by omega]
  have hpa : (2 : Nat) ^ (a + b) = 2 ^ b * 2 ^ a := by rw [Nat.pow_add, Nat.mul_comm]
  have hy : W2 % 2 ^ b < 2 ^ b := Nat.mod_lt _ (Nat.two_pow_pos b)
  have hlo : W1 % 2 ^ a < 2 ^ a := Nat.mod_lt _ (Nat.two_pow_pos a)
  have hyb : W2 % 2 ^ b * 2 ^ a + 2 ^ a ≤ 2 ^ (a + b) := by
    rw [hpa, ← Nat.succ_mul]
    exact Nat.mul_le_mul_right _ hy
  rw [hp1, Nat.div_eq_of_lt h1] at hs
  have hq : W1 - W1 / 2 ^ a % 2 ^ (b + 1) * 2 ^ a = 0 * 2 ^ 30 + W1 % 2 ^ a := by omega
  rw [andnot, hm, nx_and, blkand, pk_sub (by omega), pk_andN (by omega) b hmk, pk_shlN sh a hsh (by omega), nx_or]
  rw [hq, blkor hlo (by omega), and30 h2, or30 (by omega), show 0 * 2 ^ 30 + W2 % 2 ^ b * 2 ^ a + W1 % 2 ^ a = W2 % 2 ^ b * 2 ^ a + W1 % 2 ^ a by omega]

/-! the class's helpers at a field -/
theorem tb_F : ∀ L, L < 6 → ∀ R, R < 6 → L ≤ R → ((f_F_bitsRightOf (f_F_lastByte (nI (8 * L + R))) &&& 31).toBitVec.smod 32).toNat = 6 * (5 - R) ∧ (f_F_rightMask (nI (8 * L + R))).toBitVec.toNat = 2 ^ (6 * (R + 1 - (if L = 0 then 1 else L))) - 1 ∧ f_F_signMask (nI (8 * L + R)) = (if L = 0 then (1073741824 : Int32) else 0) := by decide +kernel
theorem tb_S : ∀ L, L < 6 → ∀ R, R < 6 → L ≤ R → ((f_F_rightMask (nI (8 * L + R)) <<< (f_F_bitsRightOf (f_F_lastByte (nI (8 * L + R))) &&& 31)) ||| f_F_signMask (nI (8 * L + R))) = nI (if L = 0 then (2 ^ (6 * R + 1) - 1) * 2 ^ (6 * (5 - R)) else (2 ^ (6 * (R + 1 - L)) - 1) * 2 ^ (6 * (5 - R))) := by decide +kernel
theorem fo_0 {W R : Nat} (hW : W < 2147483648) (hR : R ≤ 5) : f_F_fieldOf (nI W) (nI (8 * 0 + R)) = nI (W / 2 ^ (6 * (5 - R)) % 2 ^ (6 * R) + W / 1073741824 * 1073741824) := by
  obtain ⟨t1, t2, t3⟩ := tb_F 0 (by decide) R (by omega) (Nat.zero_le _)
  rw [if_pos rfl] at t2 t3
  have hp : (2 : Nat) ^ (6 * R) ≤ 2 ^ 30 := Nat.pow_le_pow_right (by decide) (by omega)
  have hl : W / 2 ^ (6 * (5 - R)) % 2 ^ (6 * R) < 2 ^ (6 * R) := Nat.mod_lt _ (Nat.two_pow_pos _)
  have hd : W / 2 ^ (6 * (5 - R)) ≤ W := Nat.div_le_self _ _
  unfold f_F_fieldOf
  rw [t3, pk_shrN (by omega) _ _ t1, pk_andN (by omega) _ t2, show R + 1 - 1 = R by omega, and30 hW, or30 (by omega)]
theorem fo_1 {W L R : Nat} (hW : W < 2147483648) (h0 : 0 < L) (hL : L ≤ R) (hR : R ≤ 5) : f_F_fieldOf (nI W) (nI (8 * L + R)) = nI (W / 2 ^ (6 * (5 - R)) % 2 ^ (6 * (R + 1 - L))) := by
  obtain ⟨t1, t2, t3⟩ := tb_F L (by omega) R (by omega) hL
  rw [if_neg (by omega)] at t2 t3
  have hd : W / 2 ^ (6 * (5 - R)) ≤ W := Nat.div_le_self _ _
  unfold f_F_fieldOf
  rw [t3, pk_shrN (by omega) _ _ t1, pk_andN (by omega) _ t2, Int32.and_zero, Int32.or_zero]
theorem minus_e {m s : Nat} (hm : m < 1073741824) (hs : s < 2) : (f_F_isMinus (nI (m + s * 1073741824)) = 0) ↔ s = 0 := by
  unfold f_F_isMinus
  rw [and30 (by omega), show (m + s * 1073741824) / 1073741824 = s by omega]
  rcases (show s = 0 ∨ s = 1 by omega) with rfl | rfl
  · decide
  · decide
theorem num_e {m s : Nat} (hm : m < 1073741824) (hs : s < 2) : f_F_number (nI (m + s * 1073741824)) = if s = 0 then nI m else -nI m := by
  unfold f_F_number
  rw [pk_andN (by omega) 30 (by decide), show (m + s * 1073741824) % 2 ^ 30 = m by omega]
  by_cases h : s = 0
  · rw [if_pos ((minus_e hm hs).mpr h), if_pos h]
  · rw [if_neg (fun q => h ((minus_e hm hs).mp q)), if_neg h]

theorem LR_21 {L R : Nat} (h : L ≤ R) (hR : R ≤ 5) : (L = 0 ∧ R = 0) ∨ (L = 0 ∧ R = 1) ∨ (L = 0 ∧ R = 2) ∨ (L = 0 ∧ R = 3) ∨ (L = 0 ∧ R = 4) ∨ (L = 0 ∧ R = 5) ∨ (L = 1 ∧ R = 1) ∨ (L = 1 ∧ R = 2) ∨ (L = 1 ∧ R = 3) ∨ (L = 1 ∧ R = 4) ∨ (L = 1 ∧ R = 5) ∨ (L = 2 ∧ R = 2) ∨ (L = 2 ∧ R = 3) ∨ (L = 2 ∧ R = 4) ∨ (L = 2 ∧ R = 5) ∨ (L = 3 ∧ R = 3) ∨ (L = 3 ∧ R = 4) ∨ (L = 3 ∧ R = 5) ∨ (L = 4 ∧ R = 4) ∨ (L = 4 ∧ R = 5) ∨ (L = 5 ∧ R = 5) := by
  have h1 : L = 0 ∨ L = 1 ∨ L = 2 ∨ L = 3 ∨ L = 4 ∨ L = 5 := by omega
  have h2 : R = 0 ∨ R = 1 ∨ R = 2 ∨ R = 3 ∨ R = 4 ∨ R = 5 := by omega
  rcases h1 with rfl | rfl | rfl | rfl | rfl | rfl <;> rcases h2 with rfl | rfl | rfl | rfl | rfl | rfl <;> first | decide | (exfalso; omega)

/-- bytes that a load lays -/
def cL (c : Nat → Nat) (F R : Nat) : Nat → Nat := fun k => if k + R < 5 + F then 0 else c (k + R - 5)
/-- bytes that a store lays: c into d -/
def cS (c d : Nat → Nat) (F R : Nat) : Nat → Nat := fun k => if k < F then d k else if R < k then d k else c (k + 5 - R)
theorem okC_at {c : Nat → Nat} (hc : okC c) {k : Nat} (h1 : 1 ≤ k) (h5 : k ≤ 5) : c k < 64 := by
  rcases k_15 h1 h5 with rfl | rfl | rfl | rfl | rfl
  · exact hc.1
  · exact hc.2.1
  · exact hc.2.2.1
  · exact hc.2.2.2.1
  · exact hc.2.2.2.2
theorem cL_ok {c : Nat → Nat} {F R : Nat} (hc : okC c) (hF : 0 < F) (hR : R ≤ 5) : okC (cL c F R) := by
  have key : ∀ k, k ≤ 5 → cL c F R k < 64 := by
    intro k hk
    unfold cL
    split
    · decide
    · exact okC_at hc (by omega) (by omega)
  exact ⟨key 1 (by decide), key 2 (by decide), key 3 (by decide), key 4 (by decide), key 5 (by decide)⟩
theorem cS_ok {c d : Nat → Nat} {F R : Nat} (hc : okC c) (hd : okC d) (hF : 0 < F) (hR : R ≤ 5) : okC (cS c d F R) := by
  have key : ∀ k, 1 ≤ k → k ≤ 5 → cS c d F R k < 64 := by
    intro k hk1 hk
    have hdk : d k < 64 := okC_at hd hk1 hk
    unfold cS
    split
    · exact hdk
    · split
      · exact hdk
      · exact okC_at hc (by omega) (by omega)
  exact ⟨key 1 (by decide) (by decide), key 2 (by decide) (by decide), key 3 (by decide) (by decide), key 4 (by decide) (by decide), key 5 (by decide) (by decide)⟩

set_option maxHeartbeats 2000000 in
theorem ld_w {s L R : Nat} {c : Nat → Nat} (hs : s < 2) (hc : okC c) (hL : L ≤ R) (hR : R ≤ 5) : f_F_fieldOf (nI (wN s c)) (nI (8 * L + R)) = nI (wN (if L = 0 then s else 0) (cL c (if L = 0 then 1 else L) R)) := by
  have hW := wN_lt hs hc
  obtain ⟨h1, h2, h3, h4, h5⟩ := hc
  by_cases h0 : L = 0
  · subst h0
    rw [fo_0 hW hR, if_pos rfl, if_pos rfl]
    congr 1
    rcases (show R = 0 ∨ R = 1 ∨ R = 2 ∨ R = 3 ∨ R = 4 ∨ R = 5 by omega) with rfl | rfl | rfl | rfl | rfl | rfl <;> simp [wN, cL] <;> omega
  · rw [fo_1 hW (by omega) hL hR, if_neg h0, if_neg h0]
    congr 1
    rcases LR_21 hL hR with ⟨rfl, rfl⟩ | ⟨rfl, rfl⟩ | ⟨rfl, rfl⟩ | ⟨rfl, rfl⟩ | ⟨rfl, rfl⟩ | ⟨rfl, rfl⟩ | ⟨rfl, rfl⟩ | ⟨rfl, rfl⟩ | ⟨rfl, rfl⟩ | ⟨rfl, rfl⟩ | ⟨rfl, rfl⟩ | ⟨rfl, rfl⟩ | ⟨rfl, rfl⟩ | ⟨rfl, rfl⟩ | ⟨rfl, rfl⟩ | ⟨rfl, rfl⟩ | ⟨rfl, rfl⟩ | ⟨rfl, rfl⟩ | ⟨rfl, rfl⟩ | ⟨rfl, rfl⟩ | ⟨rfl, rfl⟩ <;> simp [wN, cL] at h0 ⊢ <;> omega

set_option maxHeartbeats 2000000 in
theorem st_w {s1 s2 L R : Nat} {c d : Nat → Nat} (hs1 : s1 < 2) (hs2 : s2 < 2) (hc : okC c) (hd : okC d) (hL : L ≤ R) (hR : R ≤ 5) :
    ((nI (wN s1 d) &&& (((f_F_rightMask (nI (8 * L + R)) <<< (f_F_bitsRightOf (f_F_lastByte (nI (8 * L + R))) &&& 31)) ||| f_F_signMask (nI (8 * L + R))) ^^^ (-1 : Int32))) ||| ((nI (wN s2 c) &&& f_F_rightMask (nI (8 * L + R))) <<< (f_F_bitsRightOf (f_F_lastByte (nI (8 * L + R))) &&& 31))) ||| (nI (wN s2 c) &&& f_F_signMask (nI (8 * L + R)))
      = nI (wN (if L = 0 then s2 else s1) (cS c d (if L = 0 then 1 else L) R)) := by
  have hW1 := wN_lt hs1 hd
  have hW2 := wN_lt hs2 hc
  obtain ⟨t1, t2, t3⟩ := tb_F L (by omega) R (by omega) hL
  have t4 := tb_S L (by omega) R (by omega) hL
  obtain ⟨h1, h2, h3, h4, h5⟩ := hc
  obtain ⟨g1, g2, g3, g4, g5⟩ := hd
  by_cases h0 : L = 0
  · subst h0
    rw [if_pos rfl] at t2 t3 t4
    rw [if_pos rfl, if_pos rfl]
    rw [show R + 1 - 1 = R by omega] at t2
    rw [t4, t3, st_0 (a := 6 * (5 - R)) (b := 6 * R) hW1 hW2 (by omega) t2 t1 rfl]
    congr 1
    rcases (show R = 0 ∨ R = 1 ∨ R = 2 ∨ R = 3 ∨ R = 4 ∨ R = 5 by omega) with rfl | rfl | rfl | rfl | rfl | rfl <;> simp [wN, cS] <;> omega
  · rw [if_neg h0] at t2 t3 t4
    rw [if_neg h0, if_neg h0]
    rw [t4, t3, st_1 (a := 6 * (5 - R)) (b := 6 * (R + 1 - L)) hW1 hW2 (by omega) (by omega) t2 t1 rfl, Int32.and_zero, Int32.or_zero]
    congr 1
    rcases LR_21 hL hR with ⟨rfl, rfl⟩ | ⟨rfl, rfl⟩ | ⟨rfl, rfl⟩ | ⟨rfl, rfl⟩ | ⟨rfl, rfl⟩ | ⟨rfl, rfl⟩ | ⟨rfl, rfl⟩ | ⟨rfl, rfl⟩ | ⟨rfl, rfl⟩ | ⟨rfl, rfl⟩ | ⟨rfl, rfl⟩ | ⟨rfl, rfl⟩ | ⟨rfl, rfl⟩ | ⟨rfl, rfl⟩ | ⟨rfl, rfl⟩ | ⟨rfl, rfl⟩ | ⟨rfl, rfl⟩ | ⟨rfl, rfl⟩ | ⟨rfl, rfl⟩ | ⟨rfl, rfl⟩ | ⟨rfl, rfl⟩ <;> simp [wN, cS] at h0 ⊢ <;> omega

theorem mn_1_0 {g b t w : Nat → Int32} {j : Nat} {c : Nat → Nat} (hj : j < 16) (hb : ∀ k, 1 ≤ k → k ≤ 5 → b (6 * j + k) = nI (c k)) : f_M_number g b t w (nI j) (nI 1) (nI 0) = nI (0) := by
  unfold f_M_number
  exact (if_pos (show nI 0 < nI 1 by decide)).trans rfl

theorem mn_1_1 {g b t w : Nat → Int32} {j : Nat} {c : Nat → Nat} (hj : j < 16) (hb : ∀ k, 1 ≤ k → k ≤ 5 → b (6 * j + k) = nI (c k)) : f_M_number g b t w (nI j) (nI 1) (nI 1) = nI (c 1 * 1) := by
  unfold f_M_number
  rw [if_neg (by decide), if_pos (by decide)]
  have i1 : (((6 : Int32) * nI j) + nI 1).toNatClampNeg = 6 * j + 1 := ix_e (k := 1) hj (by decide)
  rw [i1, hb 1 (by decide) (by decide)]
  simp only [show (64 : Int32) = nI 64 from rfl, show (0 : Int32) = nI 0 from rfl, pk_mul, nI_add]
  congr 1 <;> omega

theorem mn_1_2 {g b t w : Nat → Int32} {j : Nat} {c : Nat → Nat} (hj : j < 16) (hb : ∀ k, 1 ≤ k → k ≤ 5 → b (6 * j + k) = nI (c k)) : f_M_number g b t w (nI j) (nI 1) (nI 2) = nI (c 1 * 64 + c 2 * 1) := by
  unfold f_M_number
  rw [if_neg (by decide), if_neg (by decide), if_pos (by decide)]
  have i1 : (((6 : Int32) * nI j) + nI 1).toNatClampNeg = 6 * j + 1 := ix_e (k := 1) hj (by decide)
  have i2 : (((6 : Int32) * nI j) + (nI 1 + (1 : Int32))).toNatClampNeg = 6 * j + 2 := ix_e (k := 2) hj (by decide)
  rw [i1, i2, hb 1 (by decide) (by decide), hb 2 (by decide) (by decide)]
  simp only [show (64 : Int32) = nI 64 from rfl, show (0 : Int32) = nI 0 from rfl, pk_mul, nI_add]
  congr 1 <;> omega

theorem mn_1_3 {g b t w : Nat → Int32} {j : Nat} {c : Nat → Nat} (hj : j < 16) (hb : ∀ k, 1 ≤ k → k ≤ 5 → b (6 * j + k) = nI (c k)) : f_M_number g b t w (nI j) (nI 1) (nI 3) = nI (c 1 * 4096 + c 2 * 64 + c 3 * 1) := by
  unfold f_M_number
  rw [if_neg (by decide), if_neg (by decide), if_neg (by decide), if_pos (by decide)]
  have i1 : (((6 : Int32) * nI j) + nI 1).toNatClampNeg = 6 * j + 1 := ix_e (k := 1) hj (by decide)
  have i2 : (((6 : Int32) * nI j) + (nI 1 + (1 : Int32))).toNatClampNeg = 6 * j + 2 := ix_e (k := 2) hj (by decide)
  have i3 : (((6 : Int32) * nI j) + ((nI 1 + (1 : Int32)) + (1 : Int32))).toNatClampNeg = 6 * j + 3 := ix_e (k := 3) hj (by decide)
  rw [i1, i2, i3, hb 1 (by decide) (by decide), hb 2 (by decide) (by decide), hb 3 (by decide) (by decide)]
  simp only [show (64 : Int32) = nI 64 from rfl, show (0 : Int32) = nI 0 from rfl, pk_mul, nI_add]
  congr 1 <;> omega

theorem mn_1_4 {g b t w : Nat → Int32} {j : Nat} {c : Nat → Nat} (hj : j < 16) (hb : ∀ k, 1 ≤ k → k ≤ 5 → b (6 * j + k) = nI (c k)) : f_M_number g b t w (nI j) (nI 1) (nI 4) = nI (c 1 * 262144 + c 2 * 4096 + c 3 * 64 + c 4 * 1) := by
  unfold f_M_number
  rw [if_neg (by decide), if_neg (by decide), if_neg (by decide), if_neg (by decide), if_pos (by decide)]
  have i1 : (((6 : Int32) * nI j) + nI 1).toNatClampNeg = 6 * j + 1 := ix_e (k := 1) hj (by decide)
  have i2 : (((6 : Int32) * nI j) + (nI 1 + (1 : Int32))).toNatClampNeg = 6 * j + 2 := ix_e (k := 2) hj (by decide)
  have i3 : (((6 : Int32) * nI j) + ((nI 1 + (1 : Int32)) + (1 : Int32))).toNatClampNeg = 6 * j + 3 := ix_e (k := 3) hj (by decide)
  have i4 : (((6 : Int32) * nI j) + (((nI 1 + (1 : Int32)) + (1 : Int32)) + (1 : Int32))).toNatClampNeg = 6 * j + 4 := ix_e (k := 4) hj (by decide)
  rw [i1, i2, i3, i4, hb 1 (by decide) (by decide), hb 2 (by decide) (by decide), hb 3 (by decide) (by decide), hb 4 (by decide) (by decide)]
  simp only [show (64 : Int32) = nI 64 from rfl, show (0 : Int32) = nI 0 from rfl, pk_mul, nI_add]
  congr 1 <;> omega

theorem mn_1_5 {g b t w : Nat → Int32} {j : Nat} {c : Nat → Nat} (hj : j < 16) (hb : ∀ k, 1 ≤ k → k ≤ 5 → b (6 * j + k) = nI (c k)) : f_M_number g b t w (nI j) (nI 1) (nI 5) = nI (c 1 * 16777216 + c 2 * 262144 + c 3 * 4096 + c 4 * 64 + c 5 * 1) := by
  unfold f_M_number
  rw [if_neg (by decide), if_neg (by decide), if_neg (by decide), if_neg (by decide), if_neg (by decide)]
  have i1 : (((6 : Int32) * nI j) + nI 1).toNatClampNeg = 6 * j + 1 := ix_e (k := 1) hj (by decide)
  have i2 : (((6 : Int32) * nI j) + (nI 1 + (1 : Int32))).toNatClampNeg = 6 * j + 2 := ix_e (k := 2) hj (by decide)
  have i3 : (((6 : Int32) * nI j) + ((nI 1 + (1 : Int32)) + (1 : Int32))).toNatClampNeg = 6 * j + 3 := ix_e (k := 3) hj (by decide)
  have i4 : (((6 : Int32) * nI j) + (((nI 1 + (1 : Int32)) + (1 : Int32)) + (1 : Int32))).toNatClampNeg = 6 * j + 4 := ix_e (k := 4) hj (by decide)
  have i5 : (((6 : Int32) * nI j) + ((((nI 1 + (1 : Int32)) + (1 : Int32)) + (1 : Int32)) + (1 : Int32))).toNatClampNeg = 6 * j + 5 := ix_e (k := 5) hj (by decide)
  rw [i1, i2, i3, i4, i5, hb 1 (by decide) (by decide), hb 2 (by decide) (by decide), hb 3 (by decide) (by decide), hb 4 (by decide) (by decide), hb 5 (by decide) (by decide)]
  simp only [show (64 : Int32) = nI 64 from rfl, show (0 : Int32) = nI 0 from rfl, pk_mul, nI_add]
  congr 1 <;> omega

theorem mn_2_2 {g b t w : Nat → Int32} {j : Nat} {c : Nat → Nat} (hj : j < 16) (hb : ∀ k, 1 ≤ k → k ≤ 5 → b (6 * j + k) = nI (c k)) : f_M_number g b t w (nI j) (nI 2) (nI 2) = nI (c 2 * 1) := by
  unfold f_M_number
  rw [if_neg (by decide), if_pos (by decide)]
  have i2 : (((6 : Int32) * nI j) + nI 2).toNatClampNeg = 6 * j + 2 := ix_e (k := 2) hj (by decide)
  rw [i2, hb 2 (by decide) (by decide)]
  simp only [show (64 : Int32) = nI 64 from rfl, show (0 : Int32) = nI 0 from rfl, pk_mul, nI_add]
  congr 1 <;> omega

theorem mn_2_3 {g b t w : Nat → Int32} {j : Nat} {c : Nat → Nat} (hj : j < 16) (hb : ∀ k, 1 ≤ k → k ≤ 5 → b (6 * j + k) = nI (c k)) : f_M_number g b t w (nI j) (nI 2) (nI 3) = nI (c 2 * 64 + c 3 * 1) := by
  unfold f_M_number
  rw [if_neg (by decide), if_neg (by decide), if_pos (by decide)]
  have i2 : (((6 : Int32) * nI j) + nI 2).toNatClampNeg = 6 * j + 2 := ix_e (k := 2) hj (by decide)
  have i3 : (((6 : Int32) * nI j) + (nI 2 + (1 : Int32))).toNatClampNeg = 6 * j + 3 := ix_e (k := 3) hj (by decide)
  rw [i2, i3, hb 2 (by decide) (by decide), hb 3 (by decide) (by decide)]
  simp only [show (64 : Int32) = nI 64 from rfl, show (0 : Int32) = nI 0 from rfl, pk_mul, nI_add]
  congr 1 <;> omega

theorem mn_2_4 {g b t w : Nat → Int32} {j : Nat} {c : Nat → Nat} (hj : j < 16) (hb : ∀ k, 1 ≤ k → k ≤ 5 → b (6 * j + k) = nI (c k)) : f_M_number g b t w (nI j) (nI 2) (nI 4) = nI (c 2 * 4096 + c 3 * 64 + c 4 * 1) := by
  unfold f_M_number
  rw [if_neg (by decide), if_neg (by decide), if_neg (by decide), if_pos (by decide)]
  have i2 : (((6 : Int32) * nI j) + nI 2).toNatClampNeg = 6 * j + 2 := ix_e (k := 2) hj (by decide)
  have i3 : (((6 : Int32) * nI j) + (nI 2 + (1 : Int32))).toNatClampNeg = 6 * j + 3 := ix_e (k := 3) hj (by decide)
  have i4 : (((6 : Int32) * nI j) + ((nI 2 + (1 : Int32)) + (1 : Int32))).toNatClampNeg = 6 * j + 4 := ix_e (k := 4) hj (by decide)
  rw [i2, i3, i4, hb 2 (by decide) (by decide), hb 3 (by decide) (by decide), hb 4 (by decide) (by decide)]
  simp only [show (64 : Int32) = nI 64 from rfl, show (0 : Int32) = nI 0 from rfl, pk_mul, nI_add]
  congr 1 <;> omega

theorem mn_2_5 {g b t w : Nat → Int32} {j : Nat} {c : Nat → Nat} (hj : j < 16) (hb : ∀ k, 1 ≤ k → k ≤ 5 → b (6 * j + k) = nI (c k)) : f_M_number g b t w (nI j) (nI 2) (nI 5) = nI (c 2 * 262144 + c 3 * 4096 + c 4 * 64 + c 5 * 1) := by
  unfold f_M_number
  rw [if_neg (by decide), if_neg (by decide), if_neg (by decide), if_neg (by decide), if_pos (by decide)]
  have i2 : (((6 : Int32) * nI j) + nI 2).toNatClampNeg = 6 * j + 2 := ix_e (k := 2) hj (by decide)
  have i3 : (((6 : Int32) * nI j) + (nI 2 + (1 : Int32))).toNatClampNeg = 6 * j + 3 := ix_e (k := 3) hj (by decide)
  have i4 : (((6 : Int32) * nI j) + ((nI 2 + (1 : Int32)) + (1 : Int32))).toNatClampNeg = 6 * j + 4 := ix_e (k := 4) hj (by decide)
  have i5 : (((6 : Int32) * nI j) + (((nI 2 + (1 : Int32)) + (1 : Int32)) + (1 : Int32))).toNatClampNeg = 6 * j + 5 := ix_e (k := 5) hj (by decide)
  rw [i2, i3, i4, i5, hb 2 (by decide) (by decide), hb 3 (by decide) (by decide), hb 4 (by decide) (by decide), hb 5 (by decide) (by decide)]
  simp only [show (64 : Int32) = nI 64 from rfl, show (0 : Int32) = nI 0 from rfl, pk_mul, nI_add]
  congr 1 <;> omega

theorem mn_3_3 {g b t w : Nat → Int32} {j : Nat} {c : Nat → Nat} (hj : j < 16) (hb : ∀ k, 1 ≤ k → k ≤ 5 → b (6 * j + k) = nI (c k)) : f_M_number g b t w (nI j) (nI 3) (nI 3) = nI (c 3 * 1) := by
  unfold f_M_number
  rw [if_neg (by decide), if_pos (by decide)]
  have i3 : (((6 : Int32) * nI j) + nI 3).toNatClampNeg = 6 * j + 3 := ix_e (k := 3) hj (by decide)
  rw [i3, hb 3 (by decide) (by decide)]
  simp only [show (64 : Int32) = nI 64 from rfl, show (0 : Int32) = nI 0 from rfl, pk_mul, nI_add]
  congr 1 <;> omega

theorem mn_3_4 {g b t w : Nat → Int32} {j : Nat} {c : Nat → Nat} (hj : j < 16) (hb : ∀ k, 1 ≤ k → k ≤ 5 → b (6 * j + k) = nI (c k)) : f_M_number g b t w (nI j) (nI 3) (nI 4) = nI (c 3 * 64 + c 4 * 1) := by
  unfold f_M_number
  rw [if_neg (by decide), if_neg (by decide), if_pos (by decide)]
  have i3 : (((6 : Int32) * nI j) + nI 3).toNatClampNeg = 6 * j + 3 := ix_e (k := 3) hj (by decide)
  have i4 : (((6 : Int32) * nI j) + (nI 3 + (1 : Int32))).toNatClampNeg = 6 * j + 4 := ix_e (k := 4) hj (by decide)
  rw [i3, i4, hb 3 (by decide) (by decide), hb 4 (by decide) (by decide)]
  simp only [show (64 : Int32) = nI 64 from rfl, show (0 : Int32) = nI 0 from rfl, pk_mul, nI_add]
  congr 1 <;> omega

theorem mn_3_5 {g b t w : Nat → Int32} {j : Nat} {c : Nat → Nat} (hj : j < 16) (hb : ∀ k, 1 ≤ k → k ≤ 5 → b (6 * j + k) = nI (c k)) : f_M_number g b t w (nI j) (nI 3) (nI 5) = nI (c 3 * 4096 + c 4 * 64 + c 5 * 1) := by
  unfold f_M_number
  rw [if_neg (by decide), if_neg (by decide), if_neg (by decide), if_pos (by decide)]
  have i3 : (((6 : Int32) * nI j) + nI 3).toNatClampNeg = 6 * j + 3 := ix_e (k := 3) hj (by decide)
  have i4 : (((6 : Int32) * nI j) + (nI 3 + (1 : Int32))).toNatClampNeg = 6 * j + 4 := ix_e (k := 4) hj (by decide)
  have i5 : (((6 : Int32) * nI j) + ((nI 3 + (1 : Int32)) + (1 : Int32))).toNatClampNeg = 6 * j + 5 := ix_e (k := 5) hj (by decide)
  rw [i3, i4, i5, hb 3 (by decide) (by decide), hb 4 (by decide) (by decide), hb 5 (by decide) (by decide)]
  simp only [show (64 : Int32) = nI 64 from rfl, show (0 : Int32) = nI 0 from rfl, pk_mul, nI_add]
  congr 1 <;> omega

theorem mn_4_4 {g b t w : Nat → Int32} {j : Nat} {c : Nat → Nat} (hj : j < 16) (hb : ∀ k, 1 ≤ k → k ≤ 5 → b (6 * j + k) = nI (c k)) : f_M_number g b t w (nI j) (nI 4) (nI 4) = nI (c 4 * 1) := by
  unfold f_M_number
  rw [if_neg (by decide), if_pos (by decide)]
  have i4 : (((6 : Int32) * nI j) + nI 4).toNatClampNeg = 6 * j + 4 := ix_e (k := 4) hj (by decide)
  rw [i4, hb 4 (by decide) (by decide)]
  simp only [show (64 : Int32) = nI 64 from rfl, show (0 : Int32) = nI 0 from rfl, pk_mul, nI_add]
  congr 1 <;> omega

theorem mn_4_5 {g b t w : Nat → Int32} {j : Nat} {c : Nat → Nat} (hj : j < 16) (hb : ∀ k, 1 ≤ k → k ≤ 5 → b (6 * j + k) = nI (c k)) : f_M_number g b t w (nI j) (nI 4) (nI 5) = nI (c 4 * 64 + c 5 * 1) := by
  unfold f_M_number
  rw [if_neg (by decide), if_neg (by decide), if_pos (by decide)]
  have i4 : (((6 : Int32) * nI j) + nI 4).toNatClampNeg = 6 * j + 4 := ix_e (k := 4) hj (by decide)
  have i5 : (((6 : Int32) * nI j) + (nI 4 + (1 : Int32))).toNatClampNeg = 6 * j + 5 := ix_e (k := 5) hj (by decide)
  rw [i4, i5, hb 4 (by decide) (by decide), hb 5 (by decide) (by decide)]
  simp only [show (64 : Int32) = nI 64 from rfl, show (0 : Int32) = nI 0 from rfl, pk_mul, nI_add]
  congr 1 <;> omega

theorem mn_5_5 {g b t w : Nat → Int32} {j : Nat} {c : Nat → Nat} (hj : j < 16) (hb : ∀ k, 1 ≤ k → k ≤ 5 → b (6 * j + k) = nI (c k)) : f_M_number g b t w (nI j) (nI 5) (nI 5) = nI (c 5 * 1) := by
  unfold f_M_number
  rw [if_neg (by decide), if_pos (by decide)]
  have i5 : (((6 : Int32) * nI j) + nI 5).toNatClampNeg = 6 * j + 5 := ix_e (k := 5) hj (by decide)
  rw [i5, hb 5 (by decide) (by decide)]
  simp only [show (64 : Int32) = nI 64 from rfl, show (0 : Int32) = nI 0 from rfl, pk_mul, nI_add]
  congr 1 <;> omega

/-- the magnitude of a field -/
def mg (c : Nat → Nat) (F R : Nat) : Nat := if R < F then 0 else if F = R then c R else if F + 1 = R then c F * 64 + c R else if F + 2 = R then c F * 4096 + c (F + 1) * 64 + c R else if F + 3 = R then c F * 262144 + c (F + 1) * 4096 + c (F + 2) * 64 + c R else c F * 16777216 + c (F + 1) * 262144 + c (F + 2) * 4096 + c (F + 3) * 64 + c R
theorem mn_e {g b t w : Nat → Int32} {j L R : Nat} {c : Nat → Nat} (hj : j < 16) (hb : ∀ k, 1 ≤ k → k ≤ 5 → b (6 * j + k) = nI (c k)) (hL : L ≤ R) (hR : R ≤ 5) : f_M_number g b t w (nI j) (nI (if L = 0 then 1 else L)) (nI R) = nI (mg c (if L = 0 then 1 else L) R) := by
  rcases LR_21 hL hR with ⟨rfl, rfl⟩ | ⟨rfl, rfl⟩ | ⟨rfl, rfl⟩ | ⟨rfl, rfl⟩ | ⟨rfl, rfl⟩ | ⟨rfl, rfl⟩ | ⟨rfl, rfl⟩ | ⟨rfl, rfl⟩ | ⟨rfl, rfl⟩ | ⟨rfl, rfl⟩ | ⟨rfl, rfl⟩ | ⟨rfl, rfl⟩ | ⟨rfl, rfl⟩ | ⟨rfl, rfl⟩ | ⟨rfl, rfl⟩ | ⟨rfl, rfl⟩ | ⟨rfl, rfl⟩ | ⟨rfl, rfl⟩ | ⟨rfl, rfl⟩ | ⟨rfl, rfl⟩ | ⟨rfl, rfl⟩
  · exact (mn_1_0 hj hb).trans (by simp [mg])
  · exact (mn_1_1 hj hb).trans (by simp [mg])
  · exact (mn_1_2 hj hb).trans (by simp [mg])
  · exact (mn_1_3 hj hb).trans (by simp [mg])
  · exact (mn_1_4 hj hb).trans (by simp [mg])
  · exact (mn_1_5 hj hb).trans (by simp [mg])
  · exact (mn_1_1 hj hb).trans (by simp [mg])
  · exact (mn_1_2 hj hb).trans (by simp [mg])
  · exact (mn_1_3 hj hb).trans (by simp [mg])
  · exact (mn_1_4 hj hb).trans (by simp [mg])
  · exact (mn_1_5 hj hb).trans (by simp [mg])
  · exact (mn_2_2 hj hb).trans (by simp [mg])
  · exact (mn_2_3 hj hb).trans (by simp [mg])
  · exact (mn_2_4 hj hb).trans (by simp [mg])
  · exact (mn_2_5 hj hb).trans (by simp [mg])
  · exact (mn_3_3 hj hb).trans (by simp [mg])
  · exact (mn_3_4 hj hb).trans (by simp [mg])
  · exact (mn_3_5 hj hb).trans (by simp [mg])
  · exact (mn_4_4 hj hb).trans (by simp [mg])
  · exact (mn_4_5 hj hb).trans (by simp [mg])
  · exact (mn_5_5 hj hb).trans (by simp [mg])

theorem mg_lt {c : Nat → Nat} {L R : Nat} (hc : okC c) (hL : L ≤ R) (hR : R ≤ 5) : mg c (if L = 0 then 1 else L) R < 1073741824 := by
  obtain ⟨h1, h2, h3, h4, h5⟩ := hc
  rcases LR_21 hL hR with ⟨rfl, rfl⟩ | ⟨rfl, rfl⟩ | ⟨rfl, rfl⟩ | ⟨rfl, rfl⟩ | ⟨rfl, rfl⟩ | ⟨rfl, rfl⟩ | ⟨rfl, rfl⟩ | ⟨rfl, rfl⟩ | ⟨rfl, rfl⟩ | ⟨rfl, rfl⟩ | ⟨rfl, rfl⟩ | ⟨rfl, rfl⟩ | ⟨rfl, rfl⟩ | ⟨rfl, rfl⟩ | ⟨rfl, rfl⟩ | ⟨rfl, rfl⟩ | ⟨rfl, rfl⟩ | ⟨rfl, rfl⟩ | ⟨rfl, rfl⟩ | ⟨rfl, rfl⟩ | ⟨rfl, rfl⟩ <;> simp [mg] <;> omega
set_option maxHeartbeats 2000000 in
/-- a word of a field's bytes has that magnitude -/
theorem mg_w {c : Nat → Nat} {s L R : Nat} (hL : L ≤ R) (hR : R ≤ 5) : wN s (cL c (if L = 0 then 1 else L) R) = mg c (if L = 0 then 1 else L) R + s * 1073741824 := by
  rcases LR_21 hL hR with ⟨rfl, rfl⟩ | ⟨rfl, rfl⟩ | ⟨rfl, rfl⟩ | ⟨rfl, rfl⟩ | ⟨rfl, rfl⟩ | ⟨rfl, rfl⟩ | ⟨rfl, rfl⟩ | ⟨rfl, rfl⟩ | ⟨rfl, rfl⟩ | ⟨rfl, rfl⟩ | ⟨rfl, rfl⟩ | ⟨rfl, rfl⟩ | ⟨rfl, rfl⟩ | ⟨rfl, rfl⟩ | ⟨rfl, rfl⟩ | ⟨rfl, rfl⟩ | ⟨rfl, rfl⟩ | ⟨rfl, rfl⟩ | ⟨rfl, rfl⟩ | ⟨rfl, rfl⟩ | ⟨rfl, rfl⟩ <;> simp [mg, wN, cL] <;> omega
/-- the class's number of a field -/
theorem cn_e {s L R : Nat} {c : Nat → Nat} (hs : s < 2) (hc : okC c) (hL : L ≤ R) (hR : R ≤ 5) : f_F_number (f_F_fieldOf (nI (wN s c)) (nI (8 * L + R))) = if (if L = 0 then s else 0) = 0 then nI (mg c (if L = 0 then 1 else L) R) else -nI (mg c (if L = 0 then 1 else L) R) := by
  rw [ld_w hs hc hL hR, mg_w hL hR, num_e (mg_lt hc hL hR) (by split <;> omega)]
