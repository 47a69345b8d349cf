/-! the worlds: the class's cells, the reference's cells, both -/
abbrev wsF (h0 q1 : Nat) (k1 : ClassId) (f : Nat → Int32) : va_W := [(h0, .inr (0, [.ref q1])), (q1, .inl (k1, 16, .inl f))]
abbrev wsM (h0 q1 q2 q3 q4 : Nat) (k1 k2 k3 k4 : ClassId) (g b t w : Nat → Int32) : va_W := [(h0, .inr (1, [.ref q1, .ref q2, .ref q3, .ref q4])), (q1, .inl (k1, 16, .inl g)), (q2, .inl (k2, 96, .inl b)), (q3, .inl (k3, 56, .inl t)), (q4, .inl (k4, 6, .inl w))]
abbrev wsL (hF qF : Nat) (kF : ClassId) (hM q1 q2 q3 q4 : Nat) (k1 k2 k3 k4 : ClassId) (f g b t w : Nat → Int32) : va_W := [(hF, .inr (0, [.ref qF])), (qF, .inl (kF, 16, .inl f)), (hM, .inr (1, [.ref q1, .ref q2, .ref q3, .ref q4])), (q1, .inl (k1, 16, .inl g)), (q2, .inl (k2, 96, .inl b)), (q3, .inl (k3, 56, .inl t)), (q4, .inl (k4, 6, .inl w))]
/-! the class's one text: where it lies, what it holds -/
def tx_let : String := " ABCDEFGHI~JKLMNOPQR[#STUVWXYZ0123456789.,()+-*/=$<>@;:'"
def ltL : List Int32 := [32, 65, 66, 67, 68, 69, 70, 71, 72, 73, 126, 74, 75, 76, 77, 78, 79, 80, 81, 82, 91, 35, 83, 84, 85, 86, 87, 88, 89, 90, 48, 49, 50, 51, 52, 53, 54, 55, 56, 57, 46, 44, 40, 41, 43, 45, 42, 47, 61, 36, 60, 62, 64, 59, 58, 39]
def sby (j : Nat) : Int32 := ltL.getD j 0
def sOK (sK sV : Nat) (A : Nat → Prop) (U : State) (H : Heap) : Prop :=
  va_O "java/lang/String" sK A U H ∧ va_OF "java/lang/String" "coder" "B" (.int 0) sK A U H ∧ va_OF "java/lang/String" "value" "[B" (.ref sV) sK A U H ∧ va_T .byte sV 56 (fun j => .int (sby j)) A U H ∧ va_Z "java/lang/String" "COMPACT_STRINGS" "Z" (.int 1) A U H ∧ va_Zq "jdk/internal/util/Preconditions" "SIOOBE_FORMATTER" "Ljava/util/function/BiFunction;" A U H ∧ vk_R "WordFields" 51 tx_let sK U
theorem sOK.bl {sK sV : Nat} {A : Nat → Prop} {U : State} {g : JFrame} {mk : MethodId} {a : Array Value} (h : sOK sK sV A U U.heap) : sOK sK sV A (U.calling g mk a) (U.calling g mk a).heap :=
  ⟨va_O.moved (Vm.Alike.refl U.vm) h.1, va_OF.moved (Vm.Alike.refl U.vm) h.2.1, va_OF.moved (Vm.Alike.refl U.vm) h.2.2.1, va_T.moved (Vm.Alike.refl U.vm) h.2.2.2.1, va_Z.moved (Vm.Alike.refl U.vm) h.2.2.2.2.1, va_Zq.moved (Vm.Alike.refl U.vm) h.2.2.2.2.2.1, vk_R.same rfl h.2.2.2.2.2.2⟩
theorem sOK.go {sK sV : Nat} {A : Nat → Prop} {s U : State} {H : Heap} {locs : List Loc} (h : sOK sK sV A s s.heap) (hS : va_S A s.heap H locs) (hU : U.heap = H) (hW : s.WarmedH U.vm) : sOK sK sV (fun _ => False) U U.heap := by
  rw [hU]
  exact ⟨((va_O.moved hW.alike h.1).kept hS.2.1).narrow (fun _ z => z.elim), ((va_OF.moved hW.alike h.2.1).kept hS.2.1).narrow (fun _ z => z.elim), ((va_OF.moved hW.alike h.2.2.1).kept hS.2.1).narrow (fun _ z => z.elim), ((va_T.moved hW.alike h.2.2.2.1).kept hS.2.1).narrow (fun _ z => z.elim), ((va_Z.moved hW.alike h.2.2.2.2.1).kept hS.2.1).narrow (fun _ z => z.elim), ((va_Zq.moved hW.alike h.2.2.2.2.2.1).kept hS.2.1).narrow (fun _ z => z.elim), vk_R.warm hW h.2.2.2.2.2.2⟩
theorem sOK.zq {sK sV : Nat} {A : Nat → Prop} {U : State} {H : Heap} (h : sOK sK sV A U H) : va_Z "jdk/internal/util/Preconditions" "SIOOBE_FORMATTER" "Ljava/util/function/BiFunction;" .null A U H ∨ ∃ t : Nat, va_Z "jdk/internal/util/Preconditions" "SIOOBE_FORMATTER" "Ljava/util/function/BiFunction;" (.ref t) A U H := h.2.2.2.2.2.1
theorem sOK.rc {sK sV : Nat} {A : Nat → Prop} {s : State} {H : Heap} {locs : List Loc} (h : sOK sK sV A s s.heap) (hS : va_S A s.heap H locs) : ∃ cell : Cell, H[sK]? = some cell ∧ cell.vm.isStatics = false ∧ s.vm.findClass "java/lang/String" = some cell.cls := by
  obtain ⟨cell, h1, h2, h3, -⟩ := h.1.kept hS.2.1
  exact ⟨cell, h1, h2, h3⟩
def ixF (c : Int32) : Nat → Nat → Int32
  | 0, _ => -1
  | n + 1, k => if sby k = c then nI k else ixF c n (k + 1)
def cdS (t : Nat → Int32) (c : Int32) : Nat → Int32
  | 0 => 0
  | k + 1 => if t k = c then nI k else cdS t c k
theorem lt_56 {k : Nat} (hk : k ≤ 56) (h : ¬ (56 : Int32) ≤ nI k) : k < 56 := by
  rw [show (56 : Int32) = nI 56 from rfl, nI_leI (by decide) (by omega)] at h
  omega
theorem eq_56 {k : Nat} (hk : k ≤ 56) (h : (56 : Int32) ≤ nI k) : k = 56 := by
  rw [show (56 : Int32) = nI 56 from rfl, nI_leI (by decide) (by omega)] at h
  omega
theorem ixF_s {c : Int32} {k : Nat} (hk : k < 56) (h : ¬ sby k = c) : ixF c (56 - k) k = ixF c (56 - (k + 1)) (k + 1) := by
  rw [show 56 - k = (56 - (k + 1)) + 1 by omega]
  show (if sby k = c then nI k else ixF c (56 - (k + 1)) (k + 1)) = _
  rw [if_neg h]
theorem ixF_h {c : Int32} {k : Nat} (hk : k < 56) (h : sby k = c) : ixF c (56 - k) k = nI k := by
  rw [show 56 - k = (56 - (k + 1)) + 1 by omega]
  show (if sby k = c then nI k else ixF c (56 - (k + 1)) (k + 1)) = _
  rw [if_pos h]
theorem ixF_e {c : Int32} {k : Nat} (hk : k ≤ 56) (h : (56 : Int32) ≤ nI k) : ixF c (56 - k) k = (-1 : Int32) := by
  rw [eq_56 hk h]
  rfl
theorem in_n0 {a : Int32} (h : vp_in a 56) : ¬ a < 0 := fun q => h (Or.inl q)
theorem in_n56 {a : Int32} (h : vp_in a 56) : a < (56 : Int32) := by
  rw [vp_in_iff] at h
  rw [Int32.lt_iff_toInt_lt]
  have e1 : (56 : Int32).toInt = 56 := by decide
  omega
/-- the reference's letters as they are laid one by one -/
def ltS : Nat → (Nat → Int32)
  | 0 => fun _ => 0
  | k + 1 => upd (ltS k) k (sby k)
/-! my own rows over the kit: a join of two roads, a call that changes nothing -/
section KK
variable {p : Program} {l : Launch} {e : Env} {R : Room} {s : State} {m : MethodId} {args : Array Value} {below : List Frame} {meth : Method} {c : Code} {H : Heap} {locs : List Loc} {cells slots : Nat} {Q : State → Prop}
variable {pc : Nat} {ls : Array Slot} {rest st0 : List Value} {a : Array Value} {A0 : Nat → Prop} {H0 : Heap}
theorem kk_mrg {pc' : Nat} {ls' : Array Slot} {rest' : List Value} {x : Int32} {g : JFrame}
    (h : (∀ v : Int32, v = x → W p l e R s m args below meth c H locs cells slots Q (F0 m pc' ls' (.int v :: rest'))) → W p l e R s m args below meth c H locs cells slots Q g)
    (k : ∀ v : Int32, v = x → W p l e R s m args below meth c H locs cells slots Q (F0 m pc' ls' (.int v :: rest'))) : W p l e R s m args below meth c H locs cells slots Q g := h k
theorem kk_top {x y : Int32} (h : x = y) (k : W p l e R s m args below meth c H locs cells slots Q (F0 m pc ls (.int y :: rest))) : W p l e R s m args below meth c H locs cells slots Q (F0 m pc ls (.int x :: rest)) := by
  subst h
  exact k
theorem kk_call0 {v : Int32} (hr : va_Run p l e R s m args below meth c H locs cells slots 0 0 (F0 m pc ls st0) rest (va_Qi (fun (r : Int32) (_ : Unit) => r = v) (fun _ _ => True) (fun _ => False) a) (fun _ => False)) (hS : va_S A0 H0 H locs)
    (kk : ∀ (H1 : Heap) (locs1 : List Loc), va_S A0 H0 H1 locs1 → W p l e R s m args below meth c H1 locs1 cells slots Q (F0 m (pc + 3) ls (.int v :: rest))) : W p l e R s m args below meth c H locs cells slots Q (F0 m pc ls st0) :=
  va_calli hr hS (fun _ _ h => h.elim) (fun _ h => h.elim) (fun r u t H1 locs1 ht hvm hw hB hz hk hS1 => by
    subst hw
    exact kk H1 locs1 hS1)
theorem kk_callP {D : va_G} {cl : List vw_C} {ws : va_W} {v : Int32} (hr : va_Run p l e R s m args below meth c H locs cells slots 0 0 (F0 m pc ls st0) rest (va_Qi (fun (r : Int32) (_ : Unit) => r = v) (fun _ _ => True) (fun _ => False) a) (fun _ => False)) (hS : va_S A0 H0 H locs) (hP : va_P D cl ws H)
    (kk : ∀ (H1 : Heap) (locs1 : List Loc), va_S A0 H0 H1 locs1 → va_P D cl ws H1 → W p l e R s m args below meth c H1 locs1 cells slots Q (F0 m (pc + 3) ls (.int v :: rest))) : W p l e R s m args below meth c H locs cells slots Q (F0 m pc ls st0) :=
  va_calli hr hS (fun _ _ h => h.elim) (fun _ h => h.elim) (fun r u t H1 locs1 ht hvm hw hB hz hk hS1 => by
    subst hw
    exact kk H1 locs1 hS1 (hP.kept (fun k q hq => hk q.1 (hP k q hq).lt (fun z => z))))
theorem kk_callv0 (hr : va_Run p l e R s m args below meth c H locs cells slots 0 0 (F0 m pc ls st0) rest (va_Qv (fun _ : Unit => True) (fun _ _ => True) (fun _ => False) a) (fun _ => False)) (hS : va_S A0 H0 H locs)
    (kk : ∀ (H1 : Heap) (locs1 : List Loc), va_S A0 H0 H1 locs1 → W p l e R s m args below meth c H1 locs1 cells slots Q (F0 m (pc + 3) ls rest)) : W p l e R s m args below meth c H locs cells slots Q (F0 m pc ls st0) :=
  va_callv hr hS (fun _ _ h => h.elim) (fun _ h => h.elim) (fun u t H1 locs1 ht hvm hw hB hz hk hS1 => kk H1 locs1 hS1)
/-- a counted loop: from k to N, a number carried along -/
theorem kk_ind {st : List Value} (I : Nat → Int32 → Array Slot → Prop) (N : Nat)
    (step : ∀ (k : Nat) (fd : Int32) (ls : Array Slot), k ≤ N → I k fd ls → (∀ (fd' : Int32) (ls' : Array Slot), k < N → I (k + 1) fd' ls' → W p l e R s m args below meth c H locs cells slots Q (F0 m pc ls' st)) → W p l e R s m args below meth c H locs cells slots Q (F0 m pc ls st)) :
    ∀ (k : Nat) (fd : Int32) (ls : Array Slot), k ≤ N → I k fd ls → W p l e R s m args below meth c H locs cells slots Q (F0 m pc ls st) := by
  have key : ∀ (n k : Nat) (fd : Int32) (ls : Array Slot), k + n = N → I k fd ls → W p l e R s m args below meth c H locs cells slots Q (F0 m pc ls st) := by
    intro n
    induction n with
    | zero => intro k fd ls hk hI; exact step k fd ls (by omega) hI (fun _ _ h => absurd h (by omega))
    | succ n ih => intro k fd ls hk hI; exact step k fd ls (by omega) hI (fun fd' ls' _ h => ih (k + 1) fd' ls' (by omega) h)
  intro k fd ls hk hI
  exact key (N - k) k fd ls (by omega) hI
end KK
section KW
variable {p : Program} {l : Launch} {e : Env} {R : Room} {s : State} {m : MethodId} {args : Array Value} {below : List Frame} {meth : Method} {c : Code} {H : Heap} {locs : List Loc} {cells slots : Nat} {Q : State → Prop}
variable {pc : Nat} {ls : Array Slot} {rest st0 : List Value} {a : Array Value} {A0 : Nat → Prop} {H0 : Heap}
/-- a call that writes a part of the world: the rest stays -/
theorem kk_callW {D : va_G} {cl : List vw_C} {ws wc wr w1 w2 : va_W} {v : Int32} (hr : va_Run p l e R s m args below meth c H locs cells slots 0 0 (F0 m pc ls st0) rest (va_Qi (fun (r : Int32) (_ : Unit) => r = v) (fun _ t => va_P D cl w1 t.heap ∧ va_D (va_A wc H.size) w1) (va_A wc H.size) a) (va_A wc H.size)) (hS : va_S A0 H0 H locs) (hP : va_P D cl ws H) (hD : va_D A0 ws) (hA : ∀ q, H0.size ≤ q → A0 q)
    (isC isR : List Nat) (hC : isC.map (fun i => ws[i]?) = wc.map some) (hR : isR.map (fun i => ws[i]?) = wr.map some) (hn : va_nd isR = true) (hdis : ∀ i ∈ isR, i ∉ isC) (is2 : List Nat) (h2 : is2.map (fun i => (wr ++ w1)[i]?) = w2.map some) (h3 : is2.filterMap (fun i => (wr ++ w1)[i]?) = w2) (hn2 : va_nd is2 = true)
    (kk : ∀ (H1 : Heap) (locs1 : List Loc), va_S A0 H0 H1 locs1 → va_P D cl w2 H1 → va_D A0 w2 → W p l e R s m args below meth c H1 locs1 cells slots Q (F0 m (pc + 3) ls (.int v :: rest))) : W p l e R s m args below meth c H locs cells slots Q (F0 m pc ls st0) := by
  have hF := va_free (wc := wc) hD hS hA isC hC
  refine va_calli hr hS (fun q _ h => hF q h) hF (fun r u t H1 locs1 ht hvm hw hB hz hk hS1 => ?_)
  subst hw
  obtain ⟨hP1, hD1⟩ := hB
  rw [ht] at hP1
  obtain ⟨hP2, hD2⟩ := va_join hP hD isC isR hC hR hn hdis hk hF hP1 hD1
  exact kk H1 locs1 hS1 (hP2.sub is2 h3) (hD2.sub is2 hn2 h2)
end KW
