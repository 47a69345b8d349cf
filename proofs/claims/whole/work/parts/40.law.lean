/-! THE CLAIM OUT OF ONE WALK OF THE LAW'S BODY. Your part is whole_start (and what it stands on); all else here is the same for every law, but numbers. -/
def R_law : String := "WordFieldsLaw"
def lw_P (b : Addr) (xs : List Int32) (args : Array Value) (s : State) : Prop := args = #[.ref b] ∧ s.IntsAt b xs ∧ xs.length ≤ 2048 ∧ (Jvm.Cond.and given_1 narrow_1).before args s = true
def lw_Q (_ : Array Value) (s : State) (o : Outcome) (t : State) : Prop := o = .returned (some (.int 1)) ∧ Framed s o t [] 7 195
def lw_Z (below : List Frame) (a : Array Value) (s : State) : State → Prop := fun t => ∃ o, t.status = .running ∧ Ended t below o ∧ lw_Q a s o t
/-- the law's own end, with 1 on the stack, nothing written that was there before, its room as the claim has it -/
theorem lw_ret {p : Program} {l : Launch} {e : Env} {s : State} {m : MethodId} {below : List Frame} {meth : Method} {c : Code} {b : Nat} (hx : p.tables.exec = Jvm.exec) (hb : c.code = code) (hr : meth.sig.returnType = ret) (hlocks : meth.locks = false) {pc : Nat} {H : Heap} {ls : Array Slot} (hdg : decode code pc = .ok (.ireturn, 1)) : W p l e room_1 s m #[Value.ref b] below meth c H [] 7 195 (lw_Z below #[Value.ref b] s) (F0 m pc ls [.int 1]) := by
  intro T hT X
  obtain ⟨fs, hret, hrun, hended, hW, hframe⟩ := X.leave (v := some (.int 1)) (hlocks := hlocks) (fun h => by rw [hr] at h; cases h)
  have hmeth' : T.vm.method? m = some meth := X.method'
  refine ⟨T.setFrames fs, ?_, .returned (some (.int 1)), hrun, hended, rfl, ⟨_, rfl⟩, hW, hframe⟩
  jvm_step X.here [X.here.top, hx, hb, hdg, hmeth', hr, ret, narrow_b1]
  (try refine ⟨rfl, ?_⟩); (try refine ⟨rfl, ?_⟩)
  first | (intro acts; rw [hret _ acts rfl rfl rfl]) | rw [hret _ _ rfl rfl rfl]
  exact Steps.refl _
/-- what holds at the law's entry: the machine, the code, the tables' words (any of lw_tbl by 'hts w (by decide +kernel)'), the script of L ints xs at the cell b, what the Statement gives of the start (any of its parts by flat_of_before) -/
def lw_At (p : Program) (s : State) (m : MethodId) (meth : Method) (c : Code) (b L : Nat) (xs : Nat → Int32) : Prop :=
  p.tables.exec = Jvm.exec ∧ c.code = code ∧ meth.sig.returnType = ret ∧ c.maxLocals = 4 ∧ s.vm.findClass R_law = some m.cls ∧ (∀ w ∈ lw_tbl, w.before #[Value.ref b] s = true) ∧ va_X b L xs s s.heap ∧ b < s.heap.size ∧ meth.locks = false ∧ (Jvm.Cond.and given_1 narrow_1).before #[Value.ref b] s = true
theorem s_lt {L i : Nat} (hL : L ≤ 2048) (hi : i ≤ L) (h : ¬ (Int32.ofNat L - (4 : Int32)) < nI i) : i + 4 ≤ L := by
  rw [Int32.lt_iff_toInt_lt, nI_toInt (by omega), show Int32.ofNat L - (4 : Int32) = nI L - nI 4 from rfl, pk_sub_toInt (by omega) (by decide)] at h
  omega
theorem s_in0 {L i : Nat} (h : i + 4 ≤ L ∧ L ≤ 2048) : vp_in (nI i) L := vp_in_nI (by omega) (by omega)
theorem s_in {L i k : Nat} (h : i + 4 ≤ L ∧ L ≤ 2048) (hk : k < 4) : vp_in (nI i + nI k) L := by
  rw [nI_add]
  exact vp_in_nI (by omega) (by omega)

set_option maxHeartbeats 40000000 in
set_option maxRecDepth 100000 in
/-- THE LAW'S LOOP -/
theorem law_loop {p : Program} {l : Launch} {e : Env} {s : State} {m : MethodId} {below : List Frame} {meth : Method} {c : Code} {dC : Nat → ClassId} {dI : Nat → Nat → Nat} {b0 L : Nat} {xs : Nat → Int32} {hF qF hM q1 q2 q3 q4 : Nat} {kF k1 k2 k3 k4 : ClassId} {sK sV : Nat} (hL : L ≤ 2048) (C0 : lw_At p s m meth c b0 L xs) (hK : va_K (dC, dI) vwCl [(kF, .int), (k1, .boolean), (k2, .int), (k3, .int), (k4, .int)] s) (hE : sOK sK sV (fun q : Nat => s.heap.size ≤ q) s s.heap) :
    ∀ (n i : Nat), i ≤ L → L + 1 ≤ i + n → ∀ (f g b t w : Nat → Int32), Rel f g b → t = ltS 56 → ∀ (H : Heap) (locs : List Loc), va_P (dC, dI) vwCl (wsL hF qF kF hM q1 q2 q3 q4 k1 k2 k3 k4 f g b t w) H → va_D (fun q : Nat => s.heap.size ≤ q) (wsL hF qF kF hM q1 q2 q3 q4 k1 k2 k3 k4 f g b t w) → va_S (fun q : Nat => s.heap.size ≤ q) s.heap H locs → ∀ (ls : Array Slot), lv_has ls 4 [(3, .int (nI i)), (0, .ref b0), (1, .ref hF), (2, .ref hM)] → W p l e room_1 s m #[Value.ref b0] below meth c H locs 7 195 (lw_Z below #[Value.ref b0] s) (F0 m 18 ls []) := by
  obtain ⟨hx, hb, hr, hml, hown, hts, hX, hbl, hlocks, hgv⟩ := C0
  have hts := fun (w : Cond) (h : w ∈ gw) => hts w (gw_in h)
  have hA : ∀ q : Nat, s.heap.size ≤ q → (fun q : Nat => s.heap.size ≤ q) q := fun _ h => h
  have hbA : ¬ (fun q : Nat => s.heap.size ≤ q) b0 := Nat.not_le.mpr hbl
  intro n
  induction n with
  | zero =>
    intro i h1 h2
    exact absurd h2 (by omega)
  | succ n ih =>
    intro i hi hin f g b t w hR hT H locs hP hD hS ls hl
    refine lv_iload_n hx hb dL_law_18 rfl (lv_at hl 0 rfl) ?_
    refine lv_aload_n hx hb dL_law_19 rfl (lv_at hl 1 rfl) ?_
    refine va_slen hx hb hX hbl hbA hS dL_law_20 ?_
    refine lv_iconst (v := (4 : Int32)) hx hb dL_law_21 (by decide) ?_
    refine lv_isub hx hb dL_law_22 ?_
    refine lv_icmp_gt (tgt := 430) hx hb dL_law_23 (by decide) (fun c_0 => ?_) (fun c_0 => ?_)
    · refine lv_iconst (v := 1) hx hb dL_law_430 (by decide) ?_
      refine va_forget (fun q hq => hS.2.2 q hq) ?_
      exact lw_ret hx hb hr hlocks dL_law_431
    have hlt : i + 4 ≤ L ∧ L ≤ 2048 := ⟨s_lt hL hi c_0, hL⟩
    refine lv_aload_n hx hb dL_law_26 rfl (lv_at hl 1 rfl) ?_
    refine lv_iload_n hx hb dL_law_27 rfl (lv_at hl 0 rfl) ?_
    refine va_sld hx hb hX hbl hbA hS (s_in0 hlt) dL_law_28 ?_
    refine lv_bipush (v := (15 : Int32)) hx hb dL_law_29 (by decide) ?_
    refine lv_iand hx hb dL_law_31 ?_
    obtain ⟨k, hk, ek⟩ := pk_andE (xs (nI i).toNatClampNeg) (m := (15 : Int32)) 4 (by decide)
    refine kk_top ek ?_
    rcases (show k = 0 ∨ k = 1 ∨ k = 2 ∨ k = 3 ∨ k = 4 ∨ k = 5 ∨ k = 6 ∨ k = 7 ∨ k = 8 ∨ k = 9 ∨ 10 ≤ k by omega) with rfl | rfl | rfl | rfl | rfl | rfl | rfl | rfl | rfl | rfl | hk9
    · refine lv_tableIn (off := 56) (tgt := 88) hx hb dL_law_32 (by decide) (by decide) (by decide) (by decide) ?_
      refine lv_aload_n hx hb dL_law_88 rfl (lv_at hl 2 rfl) ?_
      refine lv_aload_n hx hb dL_law_89 rfl (lv_at hl 1 rfl) ?_
      refine lv_iload_n hx hb dL_law_90 rfl (lv_at hl 0 rfl) ?_
      refine lv_iconst (v := (1 : Int32)) hx hb dL_law_91 (by decide) ?_
      refine lv_iadd hx hb dL_law_92 ?_
      refine va_sld hx hb hX hbl hbA hS (s_in hlt (k := 1) (by decide)) dL_law_93 ?_
      refine lv_aload_n hx hb dL_law_94 rfl (lv_at hl 1 rfl) ?_
      refine lv_iload_n hx hb dL_law_95 rfl (lv_at hl 0 rfl) ?_
      refine lv_iconst (v := (2 : Int32)) hx hb dL_law_96 (by decide) ?_
      refine lv_iadd hx hb dL_law_97 ?_
      refine va_sld hx hb hX hbl hbA hS (s_in hlt (k := 2) (by decide)) dL_law_98 ?_
      refine lv_aload_n hx hb dL_law_99 rfl (lv_at hl 1 rfl) ?_
      refine lv_iload_n hx hb dL_law_100 rfl (lv_at hl 0 rfl) ?_
      refine lv_iconst (v := (3 : Int32)) hx hb dL_law_101 (by decide) ?_
      refine lv_iadd hx hb dL_law_102 ?_
      refine va_sld hx hb hX hbl hbA hS (s_in hlt (k := 3) (by decide)) dL_law_103 ?_
      refine kk_mrg (pc' := 112) (ls' := ls) (rest' := [.int (xs ((nI i) + (2 : Int32)).toNatClampNeg), .int (xs ((nI i) + (1 : Int32)).toNatClampNeg), .ref hF]) (x := (if (xs ((nI i) + (3 : Int32)).toNatClampNeg) = 0 then (0 : Int32) else (1 : Int32))) (fun hk_1 => ?_) (fun v_3 ev_3 => ?_)
      · refine lv_if_eq (tgt := 111) hx hb dL_law_104 (by decide) (fun c_2 => ?_) (fun c_2 => ?_)
        · refine lv_iconst (v := (0 : Int32)) hx hb dL_law_111 (by decide) ?_
          exact hk_1 _ (by rw [if_pos c_2])
        · refine lv_iconst (v := (1 : Int32)) hx hb dL_law_107 (by decide) ?_
          refine lv_goto (tgt := 112) hx hb dL_law_108 (by decide) ?_
          exact hk_1 _ (by rw [if_neg c_2])
      refine kk_callW (ws := (wsL hF qF kF hM q1 q2 q3 q4 k1 k2 k3 k4 f g b t w)) (wr := wsM hM q1 q2 q3 q4 k1 k2 k3 k4 g b t w) (w2 := (wsL hF qF kF hM q1 q2 q3 q4 k1 k2 k3 k4 (u_F_set_f f (xs ((nI i) + (1 : Int32)).toNatClampNeg) (xs ((nI i) + (2 : Int32)).toNatClampNeg) v_3) g b t w)) (va_runV (As := [.int (xs ((nI i) + (1 : Int32)).toNatClampNeg), .int (xs ((nI i) + (2 : Int32)).toNatClampNeg), .int v_3]) (rest := []) ⟨hx, hb, hml, hown, hts⟩ (c_F_set l dC dI hF qF kF H.size f (xs ((nI i) + (1 : Int32)).toNatClampNeg) (xs ((nI i) + (2 : Int32)).toNatClampNeg) v_3) (cwV 3 hts (gV tw_22 tw_23 tw_24 tw_1 tw_25) rfl rfl rfl (by decide +kernel) ⟨Nat.le_of_ble_eq_true rfl, Nat.le_of_ble_eq_true rfl⟩) ⟨fun a U g mk q => ⟨q.1, q.2.1, q.2.2.1, va_K.moved (u := U) (U := U.calling g mk a) (Vm.Alike.refl U.vm) q.2.2.2.1, q.2.2.2.2⟩, va_recv hK hP (ci := 0) (q0 := 0) rfl rfl, fun U hU hW => ⟨rfl, by rw [hU], by rw [hU]; exact hP.sub [0, 1] rfl, va_K.moved hW.alike (hK.sub [0] rfl), (hD.sub [0, 1] (by decide) rfl).weaken (fun _ _ _ _ => trivial)⟩⟩ rfl rfl hl.1 rfl (lv_room (Nat.le_of_ble_eq_true rfl)) dL_law_112 ⟨Nat.le_of_ble_eq_true rfl, Nat.le_of_ble_eq_true rfl⟩) hS hP hD hA [0, 1] [2, 3, 4, 5, 6] rfl rfl (by decide) (by decide) [5, 6, 0, 1, 2, 3, 4] rfl rfl (by decide) (fun H locs hS hP hD => ?_)
      refine lv_aload_n hx hb dL_law_115 rfl (lv_at hl 3 rfl) ?_
      refine lv_aload_n hx hb dL_law_116 rfl (lv_at hl 1 rfl) ?_
      refine lv_iload_n hx hb dL_law_117 rfl (lv_at hl 0 rfl) ?_
      refine lv_iconst (v := (1 : Int32)) hx hb dL_law_118 (by decide) ?_
      refine lv_iadd hx hb dL_law_119 ?_
      refine va_sld hx hb hX hbl hbA hS (s_in hlt (k := 1) (by decide)) dL_law_120 ?_
      refine lv_aload_n hx hb dL_law_121 rfl (lv_at hl 1 rfl) ?_
      refine lv_iload_n hx hb dL_law_122 rfl (lv_at hl 0 rfl) ?_
      refine lv_iconst (v := (2 : Int32)) hx hb dL_law_123 (by decide) ?_
      refine lv_iadd hx hb dL_law_124 ?_
      refine va_sld hx hb hX hbl hbA hS (s_in hlt (k := 2) (by decide)) dL_law_125 ?_
      refine lv_aload_n hx hb dL_law_126 rfl (lv_at hl 1 rfl) ?_
      refine lv_iload_n hx hb dL_law_127 rfl (lv_at hl 0 rfl) ?_
      refine lv_iconst (v := (3 : Int32)) hx hb dL_law_128 (by decide) ?_
      refine lv_iadd hx hb dL_law_129 ?_
      refine va_sld hx hb hX hbl hbA hS (s_in hlt (k := 3) (by decide)) dL_law_130 ?_
      refine kk_mrg (pc' := 139) (ls' := ls) (rest' := [.int (xs ((nI i) + (2 : Int32)).toNatClampNeg), .int (xs ((nI i) + (1 : Int32)).toNatClampNeg), .ref hM, .int (f_F_set f (xs ((nI i) + (1 : Int32)).toNatClampNeg) (xs ((nI i) + (2 : Int32)).toNatClampNeg) v_3)]) (x := (if (xs ((nI i) + (3 : Int32)).toNatClampNeg) = 0 then (0 : Int32) else (1 : Int32))) (fun hk_4 => ?_) (fun v_6 ev_6 => ?_)
      · refine lv_if_eq (tgt := 138) hx hb dL_law_131 (by decide) (fun c_5 => ?_) (fun c_5 => ?_)
        · refine lv_iconst (v := (0 : Int32)) hx hb dL_law_138 (by decide) ?_
          exact hk_4 _ (by rw [if_pos c_5])
        · refine lv_iconst (v := (1 : Int32)) hx hb dL_law_134 (by decide) ?_
          refine lv_goto (tgt := 139) hx hb dL_law_135 (by decide) ?_
          exact hk_4 _ (by rw [if_neg c_5])
      refine kk_callW (ws := (wsL hF qF kF hM q1 q2 q3 q4 k1 k2 k3 k4 (u_F_set_f f (xs ((nI i) + (1 : Int32)).toNatClampNeg) (xs ((nI i) + (2 : Int32)).toNatClampNeg) v_3) g b t w)) (wr := wsF hF qF kF (u_F_set_f f (xs ((nI i) + (1 : Int32)).toNatClampNeg) (xs ((nI i) + (2 : Int32)).toNatClampNeg) v_3)) (w2 := (wsL hF qF kF hM q1 q2 q3 q4 k1 k2 k3 k4 (u_F_set_f f (xs ((nI i) + (1 : Int32)).toNatClampNeg) (xs ((nI i) + (2 : Int32)).toNatClampNeg) v_3) (u_M_set_g g b t w (xs ((nI i) + (1 : Int32)).toNatClampNeg) (xs ((nI i) + (2 : Int32)).toNatClampNeg) v_6) (u_M_set_b g b t w (xs ((nI i) + (1 : Int32)).toNatClampNeg) (xs ((nI i) + (2 : Int32)).toNatClampNeg) v_6) t w)) (va_runV (As := [.int (xs ((nI i) + (1 : Int32)).toNatClampNeg), .int (xs ((nI i) + (2 : Int32)).toNatClampNeg), .int v_6]) (rest := [.int (f_F_set f (xs ((nI i) + (1 : Int32)).toNatClampNeg) (xs ((nI i) + (2 : Int32)).toNatClampNeg) v_3)]) ⟨hx, hb, hml, hown, hts⟩ (c_M_set l dC dI hM q1 q2 q3 q4 k1 k2 k3 k4 H.size g b t w (xs ((nI i) + (1 : Int32)).toNatClampNeg) (xs ((nI i) + (2 : Int32)).toNatClampNeg) v_6) (cwV 3 hts (gV tw_228 tw_229 tw_230 tw_2 tw_231) rfl rfl rfl (by decide +kernel) ⟨Nat.le_of_ble_eq_true rfl, Nat.le_of_ble_eq_true rfl⟩) ⟨fun a U g mk q => ⟨q.1, q.2.1, q.2.2.1, va_K.moved (u := U) (U := U.calling g mk a) (Vm.Alike.refl U.vm) q.2.2.2.1, q.2.2.2.2⟩, va_recv hK hP (ci := 1) (q0 := 2) rfl rfl, fun U hU hW => ⟨rfl, by rw [hU], by rw [hU]; exact hP.sub [2, 3, 4, 5, 6] rfl, va_K.moved hW.alike (hK.sub [1, 2, 3, 4] rfl), (hD.sub [2, 3, 4, 5, 6] (by decide) rfl).weaken (fun _ _ _ _ => trivial)⟩⟩ rfl rfl hl.1 rfl (lv_room (Nat.le_of_ble_eq_true rfl)) dL_law_139 ⟨Nat.le_of_ble_eq_true rfl, Nat.le_of_ble_eq_true rfl⟩) hS hP hD hA [2, 3, 4, 5, 6] [0, 1] rfl rfl (by decide) (by decide) [0, 1, 2, 3, 4, 5, 6] rfl rfl (by decide) (fun H locs hS hP hD => ?_)
      refine lv_icmp_eq (tgt := 424) hx hb dL_law_142 (by decide) (fun _ => ?_) (fun c0 => absurd (by subst ev_3; subst ev_6; exact (P_set hR _ _ _).1) c0)
      refine lv_iinc (v := (nI (i + 4))) (lv' := [(3, .int (nI (i + 4))), (0, .ref b0), (1, .ref hF), (2, .ref hM)]) hx hb dL_law_424 hl (k := 0) rfl (nI_add i 4) (by decide) rfl (fun ls hl => ?_)
      refine lv_goto (tgt := 18) hx hb dL_law_427 (by decide) ?_
      exact ih (i + 4) (by omega) (by omega) (u_F_set_f f (xs ((nI i) + (1 : Int32)).toNatClampNeg) (xs ((nI i) + (2 : Int32)).toNatClampNeg) v_3) (u_M_set_g g b t w (xs ((nI i) + (1 : Int32)).toNatClampNeg) (xs ((nI i) + (2 : Int32)).toNatClampNeg) v_6) (u_M_set_b g b t w (xs ((nI i) + (1 : Int32)).toNatClampNeg) (xs ((nI i) + (2 : Int32)).toNatClampNeg) v_6) t w (by subst ev_3; subst ev_6; exact (P_set hR _ _ _).2) hT H locs hP hD hS ls (lv_sub hl [0, 1, 2, 3] rfl)
    · refine lv_tableIn (off := 115) (tgt := 147) hx hb dL_law_32 (by decide) (by decide) (by decide) (by decide) ?_
      refine lv_aload_n hx hb dL_law_147 rfl (lv_at hl 2 rfl) ?_
      refine lv_aload_n hx hb dL_law_148 rfl (lv_at hl 1 rfl) ?_
      refine lv_iload_n hx hb dL_law_149 rfl (lv_at hl 0 rfl) ?_
      refine lv_iconst (v := (1 : Int32)) hx hb dL_law_150 (by decide) ?_
      refine lv_iadd hx hb dL_law_151 ?_
      refine va_sld hx hb hX hbl hbA hS (s_in hlt (k := 1) (by decide)) dL_law_152 ?_
      refine kk_callP (va_runV (As := [.int (xs ((nI i) + (1 : Int32)).toNatClampNeg)]) (rest := []) ⟨hx, hb, hml, hown, hts⟩ (c_F_value l dC dI hF qF kF f (xs ((nI i) + (1 : Int32)).toNatClampNeg)) (cwV 1 hts (gV tw_32 tw_33 tw_34 tw_1 tw_35) rfl rfl rfl (by decide +kernel) ⟨Nat.le_of_ble_eq_true rfl, Nat.le_of_ble_eq_true rfl⟩) ⟨fun a U g mk q => ⟨q.1, q.2.1, va_K.moved (u := U) (U := U.calling g mk a) (Vm.Alike.refl U.vm) q.2.2⟩, va_recv hK hP (ci := 0) (q0 := 0) rfl rfl, fun U hU hW => ⟨rfl, by rw [hU]; exact hP.sub [0, 1] rfl, va_K.moved hW.alike (hK.sub [0] rfl)⟩⟩ rfl rfl hl.1 rfl (lv_room (Nat.le_of_ble_eq_true rfl)) dL_law_153 ⟨Nat.le_of_ble_eq_true rfl, Nat.le_of_ble_eq_true rfl⟩) hS hP (fun H locs hS hP => ?_)
      refine lv_aload_n hx hb dL_law_156 rfl (lv_at hl 3 rfl) ?_
      refine lv_aload_n hx hb dL_law_157 rfl (lv_at hl 1 rfl) ?_
      refine lv_iload_n hx hb dL_law_158 rfl (lv_at hl 0 rfl) ?_
      refine lv_iconst (v := (1 : Int32)) hx hb dL_law_159 (by decide) ?_
      refine lv_iadd hx hb dL_law_160 ?_
      refine va_sld hx hb hX hbl hbA hS (s_in hlt (k := 1) (by decide)) dL_law_161 ?_
      refine kk_callP (va_runV (As := [.int (xs ((nI i) + (1 : Int32)).toNatClampNeg)]) (rest := [.int (f_F_value f (xs ((nI i) + (1 : Int32)).toNatClampNeg))]) ⟨hx, hb, hml, hown, hts⟩ (c_M_value l dC dI hM q1 q2 q3 q4 k1 k2 k3 k4 g b t w (xs ((nI i) + (1 : Int32)).toNatClampNeg)) (cwV 1 hts (gV tw_237 tw_238 tw_239 tw_2 tw_240) rfl rfl rfl (by decide +kernel) ⟨Nat.le_of_ble_eq_true rfl, Nat.le_of_ble_eq_true rfl⟩) ⟨fun a U g mk q => ⟨q.1, q.2.1, va_K.moved (u := U) (U := U.calling g mk a) (Vm.Alike.refl U.vm) q.2.2⟩, va_recv hK hP (ci := 1) (q0 := 2) rfl rfl, fun U hU hW => ⟨rfl, by rw [hU]; exact hP.sub [2, 3, 4, 5, 6] rfl, va_K.moved hW.alike (hK.sub [1, 2, 3, 4] rfl)⟩⟩ rfl rfl hl.1 rfl (lv_room (Nat.le_of_ble_eq_true rfl)) dL_law_162 ⟨Nat.le_of_ble_eq_true rfl, Nat.le_of_ble_eq_true rfl⟩) hS hP (fun H locs hS hP => ?_)
      refine lv_icmp_eq (tgt := 424) hx hb dL_law_165 (by decide) (fun _ => ?_) (fun c0 => absurd (by exact P_value hR _) c0)
      refine lv_iinc (v := (nI (i + 4))) (lv' := [(3, .int (nI (i + 4))), (0, .ref b0), (1, .ref hF), (2, .ref hM)]) hx hb dL_law_424 hl (k := 0) rfl (nI_add i 4) (by decide) rfl (fun ls hl => ?_)
      refine lv_goto (tgt := 18) hx hb dL_law_427 (by decide) ?_
      exact ih (i + 4) (by omega) (by omega) f g b t w hR hT H locs hP hD hS ls (lv_sub hl [0, 1, 2, 3] rfl)
    · refine lv_tableIn (off := 138) (tgt := 170) hx hb dL_law_32 (by decide) (by decide) (by decide) (by decide) ?_
      refine lv_aload_n hx hb dL_law_170 rfl (lv_at hl 2 rfl) ?_
      refine lv_aload_n hx hb dL_law_171 rfl (lv_at hl 1 rfl) ?_
      refine lv_iload_n hx hb dL_law_172 rfl (lv_at hl 0 rfl) ?_
      refine lv_iconst (v := (1 : Int32)) hx hb dL_law_173 (by decide) ?_
      refine lv_iadd hx hb dL_law_174 ?_
      refine va_sld hx hb hX hbl hbA hS (s_in hlt (k := 1) (by decide)) dL_law_175 ?_
      refine lv_aload_n hx hb dL_law_176 rfl (lv_at hl 1 rfl) ?_
      refine lv_iload_n hx hb dL_law_177 rfl (lv_at hl 0 rfl) ?_
      refine lv_iconst (v := (2 : Int32)) hx hb dL_law_178 (by decide) ?_
      refine lv_iadd hx hb dL_law_179 ?_
      refine va_sld hx hb hX hbl hbA hS (s_in hlt (k := 2) (by decide)) dL_law_180 ?_
      refine kk_callP (va_runV (As := [.int (xs ((nI i) + (1 : Int32)).toNatClampNeg), .int (xs ((nI i) + (2 : Int32)).toNatClampNeg)]) (rest := []) ⟨hx, hb, hml, hown, hts⟩ (c_F_byteOf l dC dI hF qF kF f (xs ((nI i) + (1 : Int32)).toNatClampNeg) (xs ((nI i) + (2 : Int32)).toNatClampNeg)) (cwV 2 hts (gV tw_44 tw_45 tw_46 tw_1 tw_47) rfl rfl rfl (by decide +kernel) ⟨Nat.le_of_ble_eq_true rfl, Nat.le_of_ble_eq_true rfl⟩) ⟨fun a U g mk q => ⟨q.1, q.2.1, va_K.moved (u := U) (U := U.calling g mk a) (Vm.Alike.refl U.vm) q.2.2⟩, va_recv hK hP (ci := 0) (q0 := 0) rfl rfl, fun U hU hW => ⟨rfl, by rw [hU]; exact hP.sub [0, 1] rfl, va_K.moved hW.alike (hK.sub [0] rfl)⟩⟩ rfl rfl hl.1 rfl (lv_room (Nat.le_of_ble_eq_true rfl)) dL_law_181 ⟨Nat.le_of_ble_eq_true rfl, Nat.le_of_ble_eq_true rfl⟩) hS hP (fun H locs hS hP => ?_)
      refine lv_aload_n hx hb dL_law_184 rfl (lv_at hl 3 rfl) ?_
      refine lv_aload_n hx hb dL_law_185 rfl (lv_at hl 1 rfl) ?_
      refine lv_iload_n hx hb dL_law_186 rfl (lv_at hl 0 rfl) ?_
      refine lv_iconst (v := (1 : Int32)) hx hb dL_law_187 (by decide) ?_
      refine lv_iadd hx hb dL_law_188 ?_
      refine va_sld hx hb hX hbl hbA hS (s_in hlt (k := 1) (by decide)) dL_law_189 ?_
      refine lv_aload_n hx hb dL_law_190 rfl (lv_at hl 1 rfl) ?_
      refine lv_iload_n hx hb dL_law_191 rfl (lv_at hl 0 rfl) ?_
      refine lv_iconst (v := (2 : Int32)) hx hb dL_law_192 (by decide) ?_
      refine lv_iadd hx hb dL_law_193 ?_
      refine va_sld hx hb hX hbl hbA hS (s_in hlt (k := 2) (by decide)) dL_law_194 ?_
      refine kk_callP (va_runV (As := [.int (xs ((nI i) + (1 : Int32)).toNatClampNeg), .int (xs ((nI i) + (2 : Int32)).toNatClampNeg)]) (rest := [.int (f_F_byteOf f (xs ((nI i) + (1 : Int32)).toNatClampNeg) (xs ((nI i) + (2 : Int32)).toNatClampNeg))]) ⟨hx, hb, hml, hown, hts⟩ (c_M_byteOf l dC dI hM q1 q2 q3 q4 k1 k2 k3 k4 g b t w (xs ((nI i) + (1 : Int32)).toNatClampNeg) (xs ((nI i) + (2 : Int32)).toNatClampNeg)) (cwV 2 hts (gV tw_247 tw_248 tw_249 tw_2 tw_250) rfl rfl rfl (by decide +kernel) ⟨Nat.le_of_ble_eq_true rfl, Nat.le_of_ble_eq_true rfl⟩) ⟨fun a U g mk q => ⟨q.1, q.2.1, va_K.moved (u := U) (U := U.calling g mk a) (Vm.Alike.refl U.vm) q.2.2⟩, va_recv hK hP (ci := 1) (q0 := 2) rfl rfl, fun U hU hW => ⟨rfl, by rw [hU]; exact hP.sub [2, 3, 4, 5, 6] rfl, va_K.moved hW.alike (hK.sub [1, 2, 3, 4] rfl)⟩⟩ rfl rfl hl.1 rfl (lv_room (Nat.le_of_ble_eq_true rfl)) dL_law_195 ⟨Nat.le_of_ble_eq_true rfl, Nat.le_of_ble_eq_true rfl⟩) hS hP (fun H locs hS hP => ?_)
      refine lv_icmp_eq (tgt := 424) hx hb dL_law_198 (by decide) (fun _ => ?_) (fun c0 => absurd (by exact P_byteOf hR _ _) c0)
      refine lv_iinc (v := (nI (i + 4))) (lv' := [(3, .int (nI (i + 4))), (0, .ref b0), (1, .ref hF), (2, .ref hM)]) hx hb dL_law_424 hl (k := 0) rfl (nI_add i 4) (by decide) rfl (fun ls hl => ?_)
      refine lv_goto (tgt := 18) hx hb dL_law_427 (by decide) ?_
      exact ih (i + 4) (by omega) (by omega) f g b t w hR hT H locs hP hD hS ls (lv_sub hl [0, 1, 2, 3] rfl)
    · refine lv_tableIn (off := 171) (tgt := 203) hx hb dL_law_32 (by decide) (by decide) (by decide) (by decide) ?_
      refine lv_aload_n hx hb dL_law_203 rfl (lv_at hl 2 rfl) ?_
      refine lv_aload_n hx hb dL_law_204 rfl (lv_at hl 1 rfl) ?_
      refine lv_iload_n hx hb dL_law_205 rfl (lv_at hl 0 rfl) ?_
      refine lv_iconst (v := (1 : Int32)) hx hb dL_law_206 (by decide) ?_
      refine lv_iadd hx hb dL_law_207 ?_
      refine va_sld hx hb hX hbl hbA hS (s_in hlt (k := 1) (by decide)) dL_law_208 ?_
      refine lv_aload_n hx hb dL_law_209 rfl (lv_at hl 1 rfl) ?_
      refine lv_iload_n hx hb dL_law_210 rfl (lv_at hl 0 rfl) ?_
      refine lv_iconst (v := (2 : Int32)) hx hb dL_law_211 (by decide) ?_
      refine lv_iadd hx hb dL_law_212 ?_
      refine va_sld hx hb hX hbl hbA hS (s_in hlt (k := 2) (by decide)) dL_law_213 ?_
      refine lv_aload_n hx hb dL_law_214 rfl (lv_at hl 1 rfl) ?_
      refine lv_iload_n hx hb dL_law_215 rfl (lv_at hl 0 rfl) ?_
      refine lv_iconst (v := (3 : Int32)) hx hb dL_law_216 (by decide) ?_
      refine lv_iadd hx hb dL_law_217 ?_
      refine va_sld hx hb hX hbl hbA hS (s_in hlt (k := 3) (by decide)) dL_law_218 ?_
      refine kk_callW (ws := (wsL hF qF kF hM q1 q2 q3 q4 k1 k2 k3 k4 f g b t w)) (wr := wsM hM q1 q2 q3 q4 k1 k2 k3 k4 g b t w) (w2 := (wsL hF qF kF hM q1 q2 q3 q4 k1 k2 k3 k4 (u_F_load_f f (xs ((nI i) + (1 : Int32)).toNatClampNeg) (xs ((nI i) + (2 : Int32)).toNatClampNeg) (xs ((nI i) + (3 : Int32)).toNatClampNeg)) g b t w)) (va_runV (As := [.int (xs ((nI i) + (1 : Int32)).toNatClampNeg), .int (xs ((nI i) + (2 : Int32)).toNatClampNeg), .int (xs ((nI i) + (3 : Int32)).toNatClampNeg)]) (rest := []) ⟨hx, hb, hml, hown, hts⟩ (c_F_load l dC dI hF qF kF H.size f (xs ((nI i) + (1 : Int32)).toNatClampNeg) (xs ((nI i) + (2 : Int32)).toNatClampNeg) (xs ((nI i) + (3 : Int32)).toNatClampNeg)) (cwV 3 hts (gV tw_51 tw_52 tw_53 tw_1 tw_54) rfl rfl rfl (by decide +kernel) ⟨Nat.le_of_ble_eq_true rfl, Nat.le_of_ble_eq_true rfl⟩) ⟨fun a U g mk q => ⟨q.1, q.2.1, q.2.2.1, va_K.moved (u := U) (U := U.calling g mk a) (Vm.Alike.refl U.vm) q.2.2.2.1, q.2.2.2.2⟩, va_recv hK hP (ci := 0) (q0 := 0) rfl rfl, fun U hU hW => ⟨rfl, by rw [hU], by rw [hU]; exact hP.sub [0, 1] rfl, va_K.moved hW.alike (hK.sub [0] rfl), (hD.sub [0, 1] (by decide) rfl).weaken (fun _ _ _ _ => trivial)⟩⟩ rfl rfl hl.1 rfl (lv_room (Nat.le_of_ble_eq_true rfl)) dL_law_219 ⟨Nat.le_of_ble_eq_true rfl, Nat.le_of_ble_eq_true rfl⟩) hS hP hD hA [0, 1] [2, 3, 4, 5, 6] rfl rfl (by decide) (by decide) [5, 6, 0, 1, 2, 3, 4] rfl rfl (by decide) (fun H locs hS hP hD => ?_)
      refine lv_aload_n hx hb dL_law_222 rfl (lv_at hl 3 rfl) ?_
      refine lv_aload_n hx hb dL_law_223 rfl (lv_at hl 1 rfl) ?_
      refine lv_iload_n hx hb dL_law_224 rfl (lv_at hl 0 rfl) ?_
      refine lv_iconst (v := (1 : Int32)) hx hb dL_law_225 (by decide) ?_
      refine lv_iadd hx hb dL_law_226 ?_
      refine va_sld hx hb hX hbl hbA hS (s_in hlt (k := 1) (by decide)) dL_law_227 ?_
      refine lv_aload_n hx hb dL_law_228 rfl (lv_at hl 1 rfl) ?_
      refine lv_iload_n hx hb dL_law_229 rfl (lv_at hl 0 rfl) ?_
      refine lv_iconst (v := (2 : Int32)) hx hb dL_law_230 (by decide) ?_
      refine lv_iadd hx hb dL_law_231 ?_
      refine va_sld hx hb hX hbl hbA hS (s_in hlt (k := 2) (by decide)) dL_law_232 ?_
      refine lv_aload_n hx hb dL_law_233 rfl (lv_at hl 1 rfl) ?_
      refine lv_iload_n hx hb dL_law_234 rfl (lv_at hl 0 rfl) ?_
      refine lv_iconst (v := (3 : Int32)) hx hb dL_law_235 (by decide) ?_
      refine lv_iadd hx hb dL_law_236 ?_
      refine va_sld hx hb hX hbl hbA hS (s_in hlt (k := 3) (by decide)) dL_law_237 ?_
      refine kk_callW (ws := (wsL hF qF kF hM q1 q2 q3 q4 k1 k2 k3 k4 (u_F_load_f f (xs ((nI i) + (1 : Int32)).toNatClampNeg) (xs ((nI i) + (2 : Int32)).toNatClampNeg) (xs ((nI i) + (3 : Int32)).toNatClampNeg)) g b t w)) (wr := wsF hF qF kF (u_F_load_f f (xs ((nI i) + (1 : Int32)).toNatClampNeg) (xs ((nI i) + (2 : Int32)).toNatClampNeg) (xs ((nI i) + (3 : Int32)).toNatClampNeg))) (w2 := (wsL hF qF kF hM q1 q2 q3 q4 k1 k2 k3 k4 (u_F_load_f f (xs ((nI i) + (1 : Int32)).toNatClampNeg) (xs ((nI i) + (2 : Int32)).toNatClampNeg) (xs ((nI i) + (3 : Int32)).toNatClampNeg)) (u_M_load_g g b t w (xs ((nI i) + (1 : Int32)).toNatClampNeg) (xs ((nI i) + (2 : Int32)).toNatClampNeg) (xs ((nI i) + (3 : Int32)).toNatClampNeg)) (u_M_load_b g b t w (xs ((nI i) + (1 : Int32)).toNatClampNeg) (xs ((nI i) + (2 : Int32)).toNatClampNeg) (xs ((nI i) + (3 : Int32)).toNatClampNeg)) t (u_M_load_w g b t w (xs ((nI i) + (1 : Int32)).toNatClampNeg) (xs ((nI i) + (2 : Int32)).toNatClampNeg) (xs ((nI i) + (3 : Int32)).toNatClampNeg)))) (va_runV (As := [.int (xs ((nI i) + (1 : Int32)).toNatClampNeg), .int (xs ((nI i) + (2 : Int32)).toNatClampNeg), .int (xs ((nI i) + (3 : Int32)).toNatClampNeg)]) (rest := [.int (f_F_load f (xs ((nI i) + (1 : Int32)).toNatClampNeg) (xs ((nI i) + (2 : Int32)).toNatClampNeg) (xs ((nI i) + (3 : Int32)).toNatClampNeg))]) ⟨hx, hb, hml, hown, hts⟩ (c_M_load l dC dI hM q1 q2 q3 q4 k1 k2 k3 k4 H.size g b t w (xs ((nI i) + (1 : Int32)).toNatClampNeg) (xs ((nI i) + (2 : Int32)).toNatClampNeg) (xs ((nI i) + (3 : Int32)).toNatClampNeg)) (cwV 3 hts (gV tw_251 tw_252 tw_253 tw_2 tw_254) rfl rfl rfl (by decide +kernel) ⟨Nat.le_of_ble_eq_true rfl, Nat.le_of_ble_eq_true rfl⟩) ⟨fun a U g mk q => ⟨q.1, q.2.1, q.2.2.1, va_K.moved (u := U) (U := U.calling g mk a) (Vm.Alike.refl U.vm) q.2.2.2.1, q.2.2.2.2⟩, va_recv hK hP (ci := 1) (q0 := 2) rfl rfl, fun U hU hW => ⟨rfl, by rw [hU], by rw [hU]; exact hP.sub [2, 3, 4, 5, 6] rfl, va_K.moved hW.alike (hK.sub [1, 2, 3, 4] rfl), (hD.sub [2, 3, 4, 5, 6] (by decide) rfl).weaken (fun _ _ _ _ => trivial)⟩⟩ rfl rfl hl.1 rfl (lv_room (Nat.le_of_ble_eq_true rfl)) dL_law_238 ⟨Nat.le_of_ble_eq_true rfl, Nat.le_of_ble_eq_true rfl⟩) hS hP hD hA [2, 3, 4, 5, 6] [0, 1] rfl rfl (by decide) (by decide) [0, 1, 2, 3, 4, 5, 6] rfl rfl (by decide) (fun H locs hS hP hD => ?_)
      refine lv_icmp_eq (tgt := 424) hx hb dL_law_241 (by decide) (fun _ => ?_) (fun c0 => absurd (by exact (P_load hR _ _ _).1) c0)
      refine lv_iinc (v := (nI (i + 4))) (lv' := [(3, .int (nI (i + 4))), (0, .ref b0), (1, .ref hF), (2, .ref hM)]) hx hb dL_law_424 hl (k := 0) rfl (nI_add i 4) (by decide) rfl (fun ls hl => ?_)
      refine lv_goto (tgt := 18) hx hb dL_law_427 (by decide) ?_
      exact ih (i + 4) (by omega) (by omega) (u_F_load_f f (xs ((nI i) + (1 : Int32)).toNatClampNeg) (xs ((nI i) + (2 : Int32)).toNatClampNeg) (xs ((nI i) + (3 : Int32)).toNatClampNeg)) (u_M_load_g g b t w (xs ((nI i) + (1 : Int32)).toNatClampNeg) (xs ((nI i) + (2 : Int32)).toNatClampNeg) (xs ((nI i) + (3 : Int32)).toNatClampNeg)) (u_M_load_b g b t w (xs ((nI i) + (1 : Int32)).toNatClampNeg) (xs ((nI i) + (2 : Int32)).toNatClampNeg) (xs ((nI i) + (3 : Int32)).toNatClampNeg)) t (u_M_load_w g b t w (xs ((nI i) + (1 : Int32)).toNatClampNeg) (xs ((nI i) + (2 : Int32)).toNatClampNeg) (xs ((nI i) + (3 : Int32)).toNatClampNeg)) (by exact (P_load hR _ _ _).2) hT H locs hP hD hS ls (lv_sub hl [0, 1, 2, 3] rfl)
    · refine lv_tableIn (off := 214) (tgt := 246) hx hb dL_law_32 (by decide) (by decide) (by decide) (by decide) ?_
      refine lv_aload_n hx hb dL_law_246 rfl (lv_at hl 2 rfl) ?_
      refine lv_aload_n hx hb dL_law_247 rfl (lv_at hl 1 rfl) ?_
      refine lv_iload_n hx hb dL_law_248 rfl (lv_at hl 0 rfl) ?_
      refine lv_iconst (v := (1 : Int32)) hx hb dL_law_249 (by decide) ?_
      refine lv_iadd hx hb dL_law_250 ?_
      refine va_sld hx hb hX hbl hbA hS (s_in hlt (k := 1) (by decide)) dL_law_251 ?_
      refine lv_aload_n hx hb dL_law_252 rfl (lv_at hl 1 rfl) ?_
      refine lv_iload_n hx hb dL_law_253 rfl (lv_at hl 0 rfl) ?_
      refine lv_iconst (v := (2 : Int32)) hx hb dL_law_254 (by decide) ?_
      refine lv_iadd hx hb dL_law_255 ?_
      refine va_sld hx hb hX hbl hbA hS (s_in hlt (k := 2) (by decide)) dL_law_256 ?_
      refine lv_aload_n hx hb dL_law_257 rfl (lv_at hl 1 rfl) ?_
      refine lv_iload_n hx hb dL_law_258 rfl (lv_at hl 0 rfl) ?_
      refine lv_iconst (v := (3 : Int32)) hx hb dL_law_259 (by decide) ?_
      refine lv_iadd hx hb dL_law_260 ?_
      refine va_sld hx hb hX hbl hbA hS (s_in hlt (k := 3) (by decide)) dL_law_261 ?_
      refine kk_callW (ws := (wsL hF qF kF hM q1 q2 q3 q4 k1 k2 k3 k4 f g b t w)) (wr := wsM hM q1 q2 q3 q4 k1 k2 k3 k4 g b t w) (w2 := (wsL hF qF kF hM q1 q2 q3 q4 k1 k2 k3 k4 (u_F_store_f f (xs ((nI i) + (1 : Int32)).toNatClampNeg) (xs ((nI i) + (2 : Int32)).toNatClampNeg) (xs ((nI i) + (3 : Int32)).toNatClampNeg)) g b t w)) (va_runV (As := [.int (xs ((nI i) + (1 : Int32)).toNatClampNeg), .int (xs ((nI i) + (2 : Int32)).toNatClampNeg), .int (xs ((nI i) + (3 : Int32)).toNatClampNeg)]) (rest := []) ⟨hx, hb, hml, hown, hts⟩ (c_F_store l dC dI hF qF kF H.size f (xs ((nI i) + (1 : Int32)).toNatClampNeg) (xs ((nI i) + (2 : Int32)).toNatClampNeg) (xs ((nI i) + (3 : Int32)).toNatClampNeg)) (cwV 3 hts (gV tw_77 tw_78 tw_79 tw_1 tw_80) rfl rfl rfl (by decide +kernel) ⟨Nat.le_of_ble_eq_true rfl, Nat.le_of_ble_eq_true rfl⟩) ⟨fun a U g mk q => ⟨q.1, q.2.1, q.2.2.1, va_K.moved (u := U) (U := U.calling g mk a) (Vm.Alike.refl U.vm) q.2.2.2.1, q.2.2.2.2⟩, va_recv hK hP (ci := 0) (q0 := 0) rfl rfl, fun U hU hW => ⟨rfl, by rw [hU], by rw [hU]; exact hP.sub [0, 1] rfl, va_K.moved hW.alike (hK.sub [0] rfl), (hD.sub [0, 1] (by decide) rfl).weaken (fun _ _ _ _ => trivial)⟩⟩ rfl rfl hl.1 rfl (lv_room (Nat.le_of_ble_eq_true rfl)) dL_law_262 ⟨Nat.le_of_ble_eq_true rfl, Nat.le_of_ble_eq_true rfl⟩) hS hP hD hA [0, 1] [2, 3, 4, 5, 6] rfl rfl (by decide) (by decide) [5, 6, 0, 1, 2, 3, 4] rfl rfl (by decide) (fun H locs hS hP hD => ?_)
      refine lv_aload_n hx hb dL_law_265 rfl (lv_at hl 3 rfl) ?_
      refine lv_aload_n hx hb dL_law_266 rfl (lv_at hl 1 rfl) ?_
      refine lv_iload_n hx hb dL_law_267 rfl (lv_at hl 0 rfl) ?_
      refine lv_iconst (v := (1 : Int32)) hx hb dL_law_268 (by decide) ?_
      refine lv_iadd hx hb dL_law_269 ?_
      refine va_sld hx hb hX hbl hbA hS (s_in hlt (k := 1) (by decide)) dL_law_270 ?_
      refine lv_aload_n hx hb dL_law_271 rfl (lv_at hl 1 rfl) ?_
      refine lv_iload_n hx hb dL_law_272 rfl (lv_at hl 0 rfl) ?_
      refine lv_iconst (v := (2 : Int32)) hx hb dL_law_273 (by decide) ?_
      refine lv_iadd hx hb dL_law_274 ?_
      refine va_sld hx hb hX hbl hbA hS (s_in hlt (k := 2) (by decide)) dL_law_275 ?_
      refine lv_aload_n hx hb dL_law_276 rfl (lv_at hl 1 rfl) ?_
      refine lv_iload_n hx hb dL_law_277 rfl (lv_at hl 0 rfl) ?_
      refine lv_iconst (v := (3 : Int32)) hx hb dL_law_278 (by decide) ?_
      refine lv_iadd hx hb dL_law_279 ?_
      refine va_sld hx hb hX hbl hbA hS (s_in hlt (k := 3) (by decide)) dL_law_280 ?_
      refine kk_callW (ws := (wsL hF qF kF hM q1 q2 q3 q4 k1 k2 k3 k4 (u_F_store_f f (xs ((nI i) + (1 : Int32)).toNatClampNeg) (xs ((nI i) + (2 : Int32)).toNatClampNeg) (xs ((nI i) + (3 : Int32)).toNatClampNeg)) g b t w)) (wr := wsF hF qF kF (u_F_store_f f (xs ((nI i) + (1 : Int32)).toNatClampNeg) (xs ((nI i) + (2 : Int32)).toNatClampNeg) (xs ((nI i) + (3 : Int32)).toNatClampNeg))) (w2 := (wsL hF qF kF hM q1 q2 q3 q4 k1 k2 k3 k4 (u_F_store_f f (xs ((nI i) + (1 : Int32)).toNatClampNeg) (xs ((nI i) + (2 : Int32)).toNatClampNeg) (xs ((nI i) + (3 : Int32)).toNatClampNeg)) (u_M_store_g g b t w (xs ((nI i) + (1 : Int32)).toNatClampNeg) (xs ((nI i) + (2 : Int32)).toNatClampNeg) (xs ((nI i) + (3 : Int32)).toNatClampNeg)) (u_M_store_b g b t w (xs ((nI i) + (1 : Int32)).toNatClampNeg) (xs ((nI i) + (2 : Int32)).toNatClampNeg) (xs ((nI i) + (3 : Int32)).toNatClampNeg)) t (u_M_store_w g b t w (xs ((nI i) + (1 : Int32)).toNatClampNeg) (xs ((nI i) + (2 : Int32)).toNatClampNeg) (xs ((nI i) + (3 : Int32)).toNatClampNeg)))) (va_runV (As := [.int (xs ((nI i) + (1 : Int32)).toNatClampNeg), .int (xs ((nI i) + (2 : Int32)).toNatClampNeg), .int (xs ((nI i) + (3 : Int32)).toNatClampNeg)]) (rest := [.int (f_F_store f (xs ((nI i) + (1 : Int32)).toNatClampNeg) (xs ((nI i) + (2 : Int32)).toNatClampNeg) (xs ((nI i) + (3 : Int32)).toNatClampNeg))]) ⟨hx, hb, hml, hown, hts⟩ (c_M_store l dC dI hM q1 q2 q3 q4 k1 k2 k3 k4 H.size g b t w (xs ((nI i) + (1 : Int32)).toNatClampNeg) (xs ((nI i) + (2 : Int32)).toNatClampNeg) (xs ((nI i) + (3 : Int32)).toNatClampNeg)) (cwV 3 hts (gV tw_265 tw_266 tw_267 tw_2 tw_268) rfl rfl rfl (by decide +kernel) ⟨Nat.le_of_ble_eq_true rfl, Nat.le_of_ble_eq_true rfl⟩) ⟨fun a U g mk q => ⟨q.1, q.2.1, q.2.2.1, va_K.moved (u := U) (U := U.calling g mk a) (Vm.Alike.refl U.vm) q.2.2.2.1, q.2.2.2.2⟩, va_recv hK hP (ci := 1) (q0 := 2) rfl rfl, fun U hU hW => ⟨rfl, by rw [hU], by rw [hU]; exact hP.sub [2, 3, 4, 5, 6] rfl, va_K.moved hW.alike (hK.sub [1, 2, 3, 4] rfl), (hD.sub [2, 3, 4, 5, 6] (by decide) rfl).weaken (fun _ _ _ _ => trivial)⟩⟩ rfl rfl hl.1 rfl (lv_room (Nat.le_of_ble_eq_true rfl)) dL_law_281 ⟨Nat.le_of_ble_eq_true rfl, Nat.le_of_ble_eq_true rfl⟩) hS hP hD hA [2, 3, 4, 5, 6] [0, 1] rfl rfl (by decide) (by decide) [0, 1, 2, 3, 4, 5, 6] rfl rfl (by decide) (fun H locs hS hP hD => ?_)
      refine lv_icmp_eq (tgt := 424) hx hb dL_law_284 (by decide) (fun _ => ?_) (fun c0 => absurd (by exact (P_store hR _ _ _).1) c0)
      refine lv_iinc (v := (nI (i + 4))) (lv' := [(3, .int (nI (i + 4))), (0, .ref b0), (1, .ref hF), (2, .ref hM)]) hx hb dL_law_424 hl (k := 0) rfl (nI_add i 4) (by decide) rfl (fun ls hl => ?_)
      refine lv_goto (tgt := 18) hx hb dL_law_427 (by decide) ?_
      exact ih (i + 4) (by omega) (by omega) (u_F_store_f f (xs ((nI i) + (1 : Int32)).toNatClampNeg) (xs ((nI i) + (2 : Int32)).toNatClampNeg) (xs ((nI i) + (3 : Int32)).toNatClampNeg)) (u_M_store_g g b t w (xs ((nI i) + (1 : Int32)).toNatClampNeg) (xs ((nI i) + (2 : Int32)).toNatClampNeg) (xs ((nI i) + (3 : Int32)).toNatClampNeg)) (u_M_store_b g b t w (xs ((nI i) + (1 : Int32)).toNatClampNeg) (xs ((nI i) + (2 : Int32)).toNatClampNeg) (xs ((nI i) + (3 : Int32)).toNatClampNeg)) t (u_M_store_w g b t w (xs ((nI i) + (1 : Int32)).toNatClampNeg) (xs ((nI i) + (2 : Int32)).toNatClampNeg) (xs ((nI i) + (3 : Int32)).toNatClampNeg)) (by exact (P_store hR _ _ _).2) hT H locs hP hD hS ls (lv_sub hl [0, 1, 2, 3] rfl)
    · refine lv_tableIn (off := 257) (tgt := 289) hx hb dL_law_32 (by decide) (by decide) (by decide) (by decide) ?_
      refine lv_aload_n hx hb dL_law_289 rfl (lv_at hl 2 rfl) ?_
      refine lv_aload_n hx hb dL_law_290 rfl (lv_at hl 1 rfl) ?_
      refine lv_iload_n hx hb dL_law_291 rfl (lv_at hl 0 rfl) ?_
      refine lv_iconst (v := (1 : Int32)) hx hb dL_law_292 (by decide) ?_
      refine lv_iadd hx hb dL_law_293 ?_
      refine va_sld hx hb hX hbl hbA hS (s_in hlt (k := 1) (by decide)) dL_law_294 ?_
      refine kk_callW (ws := (wsL hF qF kF hM q1 q2 q3 q4 k1 k2 k3 k4 f g b t w)) (wr := wsM hM q1 q2 q3 q4 k1 k2 k3 k4 g b t w) (w2 := (wsL hF qF kF hM q1 q2 q3 q4 k1 k2 k3 k4 (u_F_turn_f f (xs ((nI i) + (1 : Int32)).toNatClampNeg)) g b t w)) (va_runV (As := [.int (xs ((nI i) + (1 : Int32)).toNatClampNeg)]) (rest := []) ⟨hx, hb, hml, hown, hts⟩ (c_F_turn l dC dI hF qF kF H.size f (xs ((nI i) + (1 : Int32)).toNatClampNeg)) (cwV 1 hts (gV tw_81 tw_82 tw_83 tw_1 tw_84) rfl rfl rfl (by decide +kernel) ⟨Nat.le_of_ble_eq_true rfl, Nat.le_of_ble_eq_true rfl⟩) ⟨fun a U g mk q => ⟨q.1, q.2.1, q.2.2.1, va_K.moved (u := U) (U := U.calling g mk a) (Vm.Alike.refl U.vm) q.2.2.2.1, q.2.2.2.2⟩, va_recv hK hP (ci := 0) (q0 := 0) rfl rfl, fun U hU hW => ⟨rfl, by rw [hU], by rw [hU]; exact hP.sub [0, 1] rfl, va_K.moved hW.alike (hK.sub [0] rfl), (hD.sub [0, 1] (by decide) rfl).weaken (fun _ _ _ _ => trivial)⟩⟩ rfl rfl hl.1 rfl (lv_room (Nat.le_of_ble_eq_true rfl)) dL_law_295 ⟨Nat.le_of_ble_eq_true rfl, Nat.le_of_ble_eq_true rfl⟩) hS hP hD hA [0, 1] [2, 3, 4, 5, 6] rfl rfl (by decide) (by decide) [5, 6, 0, 1, 2, 3, 4] rfl rfl (by decide) (fun H locs hS hP hD => ?_)
      refine lv_aload_n hx hb dL_law_298 rfl (lv_at hl 3 rfl) ?_
      refine lv_aload_n hx hb dL_law_299 rfl (lv_at hl 1 rfl) ?_
      refine lv_iload_n hx hb dL_law_300 rfl (lv_at hl 0 rfl) ?_
      refine lv_iconst (v := (1 : Int32)) hx hb dL_law_301 (by decide) ?_
      refine lv_iadd hx hb dL_law_302 ?_
      refine va_sld hx hb hX hbl hbA hS (s_in hlt (k := 1) (by decide)) dL_law_303 ?_
      refine kk_callW (ws := (wsL hF qF kF hM q1 q2 q3 q4 k1 k2 k3 k4 (u_F_turn_f f (xs ((nI i) + (1 : Int32)).toNatClampNeg)) g b t w)) (wr := wsF hF qF kF (u_F_turn_f f (xs ((nI i) + (1 : Int32)).toNatClampNeg))) (w2 := (wsL hF qF kF hM q1 q2 q3 q4 k1 k2 k3 k4 (u_F_turn_f f (xs ((nI i) + (1 : Int32)).toNatClampNeg)) (u_M_turn_g g b t w (xs ((nI i) + (1 : Int32)).toNatClampNeg)) b t w)) (va_runV (As := [.int (xs ((nI i) + (1 : Int32)).toNatClampNeg)]) (rest := [.int (f_F_turn f (xs ((nI i) + (1 : Int32)).toNatClampNeg))]) ⟨hx, hb, hml, hown, hts⟩ (c_M_turn l dC dI hM q1 q2 q3 q4 k1 k2 k3 k4 H.size g b t w (xs ((nI i) + (1 : Int32)).toNatClampNeg)) (cwV 1 hts (gV tw_269 tw_270 tw_271 tw_2 tw_272) rfl rfl rfl (by decide +kernel) ⟨Nat.le_of_ble_eq_true rfl, Nat.le_of_ble_eq_true rfl⟩) ⟨fun a U g mk q => ⟨q.1, q.2.1, q.2.2.1, va_K.moved (u := U) (U := U.calling g mk a) (Vm.Alike.refl U.vm) q.2.2.2.1, q.2.2.2.2⟩, va_recv hK hP (ci := 1) (q0 := 2) rfl rfl, fun U hU hW => ⟨rfl, by rw [hU], by rw [hU]; exact hP.sub [2, 3, 4, 5, 6] rfl, va_K.moved hW.alike (hK.sub [1, 2, 3, 4] rfl), (hD.sub [2, 3, 4, 5, 6] (by decide) rfl).weaken (fun _ _ _ _ => trivial)⟩⟩ rfl rfl hl.1 rfl (lv_room (Nat.le_of_ble_eq_true rfl)) dL_law_304 ⟨Nat.le_of_ble_eq_true rfl, Nat.le_of_ble_eq_true rfl⟩) hS hP hD hA [2, 3, 4, 5, 6] [0, 1] rfl rfl (by decide) (by decide) [0, 1, 2, 3, 4, 5, 6] rfl rfl (by decide) (fun H locs hS hP hD => ?_)
      refine lv_icmp_eq (tgt := 424) hx hb dL_law_307 (by decide) (fun _ => ?_) (fun c0 => absurd (by exact (P_turn hR _).1) c0)
      refine lv_iinc (v := (nI (i + 4))) (lv' := [(3, .int (nI (i + 4))), (0, .ref b0), (1, .ref hF), (2, .ref hM)]) hx hb dL_law_424 hl (k := 0) rfl (nI_add i 4) (by decide) rfl (fun ls hl => ?_)
      refine lv_goto (tgt := 18) hx hb dL_law_427 (by decide) ?_
      exact ih (i + 4) (by omega) (by omega) (u_F_turn_f f (xs ((nI i) + (1 : Int32)).toNatClampNeg)) (u_M_turn_g g b t w (xs ((nI i) + (1 : Int32)).toNatClampNeg)) b t w (by exact (P_turn hR _).2) hT H locs hP hD hS ls (lv_sub hl [0, 1, 2, 3] rfl)
    · refine lv_tableIn (off := 280) (tgt := 312) hx hb dL_law_32 (by decide) (by decide) (by decide) (by decide) ?_
      refine lv_aload_n hx hb dL_law_312 rfl (lv_at hl 2 rfl) ?_
      refine lv_aload_n hx hb dL_law_313 rfl (lv_at hl 1 rfl) ?_
      refine lv_iload_n hx hb dL_law_314 rfl (lv_at hl 0 rfl) ?_
      refine lv_iconst (v := (1 : Int32)) hx hb dL_law_315 (by decide) ?_
      refine lv_iadd hx hb dL_law_316 ?_
      refine va_sld hx hb hX hbl hbA hS (s_in hlt (k := 1) (by decide)) dL_law_317 ?_
      refine lv_aload_n hx hb dL_law_318 rfl (lv_at hl 1 rfl) ?_
      refine lv_iload_n hx hb dL_law_319 rfl (lv_at hl 0 rfl) ?_
      refine lv_iconst (v := (2 : Int32)) hx hb dL_law_320 (by decide) ?_
      refine lv_iadd hx hb dL_law_321 ?_
      refine va_sld hx hb hX hbl hbA hS (s_in hlt (k := 2) (by decide)) dL_law_322 ?_
      refine lv_aload_n hx hb dL_law_323 rfl (lv_at hl 1 rfl) ?_
      refine lv_iload_n hx hb dL_law_324 rfl (lv_at hl 0 rfl) ?_
      refine lv_iconst (v := (3 : Int32)) hx hb dL_law_325 (by decide) ?_
      refine lv_iadd hx hb dL_law_326 ?_
      refine va_sld hx hb hX hbl hbA hS (s_in hlt (k := 3) (by decide)) dL_law_327 ?_
      refine kk_callP (va_runV (As := [.int (xs ((nI i) + (1 : Int32)).toNatClampNeg), .int (xs ((nI i) + (2 : Int32)).toNatClampNeg), .int (xs ((nI i) + (3 : Int32)).toNatClampNeg)]) (rest := []) ⟨hx, hb, hml, hown, hts⟩ (c_F_compare l dC dI hF qF kF f (xs ((nI i) + (1 : Int32)).toNatClampNeg) (xs ((nI i) + (2 : Int32)).toNatClampNeg) (xs ((nI i) + (3 : Int32)).toNatClampNeg)) (cwV 3 hts (gV tw_85 tw_86 tw_87 tw_1 tw_88) rfl rfl rfl (by decide +kernel) ⟨Nat.le_of_ble_eq_true rfl, Nat.le_of_ble_eq_true rfl⟩) ⟨fun a U g mk q => ⟨q.1, q.2.1, va_K.moved (u := U) (U := U.calling g mk a) (Vm.Alike.refl U.vm) q.2.2⟩, va_recv hK hP (ci := 0) (q0 := 0) rfl rfl, fun U hU hW => ⟨rfl, by rw [hU]; exact hP.sub [0, 1] rfl, va_K.moved hW.alike (hK.sub [0] rfl)⟩⟩ rfl rfl hl.1 rfl (lv_room (Nat.le_of_ble_eq_true rfl)) dL_law_328 ⟨Nat.le_of_ble_eq_true rfl, Nat.le_of_ble_eq_true rfl⟩) hS hP (fun H locs hS hP => ?_)
      refine lv_aload_n hx hb dL_law_331 rfl (lv_at hl 3 rfl) ?_
      refine lv_aload_n hx hb dL_law_332 rfl (lv_at hl 1 rfl) ?_
      refine lv_iload_n hx hb dL_law_333 rfl (lv_at hl 0 rfl) ?_
      refine lv_iconst (v := (1 : Int32)) hx hb dL_law_334 (by decide) ?_
      refine lv_iadd hx hb dL_law_335 ?_
      refine va_sld hx hb hX hbl hbA hS (s_in hlt (k := 1) (by decide)) dL_law_336 ?_
      refine lv_aload_n hx hb dL_law_337 rfl (lv_at hl 1 rfl) ?_
      refine lv_iload_n hx hb dL_law_338 rfl (lv_at hl 0 rfl) ?_
      refine lv_iconst (v := (2 : Int32)) hx hb dL_law_339 (by decide) ?_
      refine lv_iadd hx hb dL_law_340 ?_
      refine va_sld hx hb hX hbl hbA hS (s_in hlt (k := 2) (by decide)) dL_law_341 ?_
      refine lv_aload_n hx hb dL_law_342 rfl (lv_at hl 1 rfl) ?_
      refine lv_iload_n hx hb dL_law_343 rfl (lv_at hl 0 rfl) ?_
      refine lv_iconst (v := (3 : Int32)) hx hb dL_law_344 (by decide) ?_
      refine lv_iadd hx hb dL_law_345 ?_
      refine va_sld hx hb hX hbl hbA hS (s_in hlt (k := 3) (by decide)) dL_law_346 ?_
      refine kk_callP (va_runV (As := [.int (xs ((nI i) + (1 : Int32)).toNatClampNeg), .int (xs ((nI i) + (2 : Int32)).toNatClampNeg), .int (xs ((nI i) + (3 : Int32)).toNatClampNeg)]) (rest := [.int (f_F_compare f (xs ((nI i) + (1 : Int32)).toNatClampNeg) (xs ((nI i) + (2 : Int32)).toNatClampNeg) (xs ((nI i) + (3 : Int32)).toNatClampNeg))]) ⟨hx, hb, hml, hown, hts⟩ (c_M_compare l dC dI hM q1 q2 q3 q4 k1 k2 k3 k4 g b t w (xs ((nI i) + (1 : Int32)).toNatClampNeg) (xs ((nI i) + (2 : Int32)).toNatClampNeg) (xs ((nI i) + (3 : Int32)).toNatClampNeg)) (cwV 3 hts (gV tw_273 tw_274 tw_275 tw_2 tw_276) rfl rfl rfl (by decide +kernel) ⟨Nat.le_of_ble_eq_true rfl, Nat.le_of_ble_eq_true rfl⟩) ⟨fun a U g mk q => ⟨q.1, q.2.1, va_K.moved (u := U) (U := U.calling g mk a) (Vm.Alike.refl U.vm) q.2.2⟩, va_recv hK hP (ci := 1) (q0 := 2) rfl rfl, fun U hU hW => ⟨rfl, by rw [hU]; exact hP.sub [2, 3, 4, 5, 6] rfl, va_K.moved hW.alike (hK.sub [1, 2, 3, 4] rfl)⟩⟩ rfl rfl hl.1 rfl (lv_room (Nat.le_of_ble_eq_true rfl)) dL_law_347 ⟨Nat.le_of_ble_eq_true rfl, Nat.le_of_ble_eq_true rfl⟩) hS hP (fun H locs hS hP => ?_)
      refine lv_icmp_eq (tgt := 424) hx hb dL_law_350 (by decide) (fun _ => ?_) (fun c0 => absurd (by exact P_compare hR _ _ _) c0)
      refine lv_iinc (v := (nI (i + 4))) (lv' := [(3, .int (nI (i + 4))), (0, .ref b0), (1, .ref hF), (2, .ref hM)]) hx hb dL_law_424 hl (k := 0) rfl (nI_add i 4) (by decide) rfl (fun ls hl => ?_)
      refine lv_goto (tgt := 18) hx hb dL_law_427 (by decide) ?_
      exact ih (i + 4) (by omega) (by omega) f g b t w hR hT H locs hP hD hS ls (lv_sub hl [0, 1, 2, 3] rfl)
    · refine lv_tableIn (off := 323) (tgt := 355) hx hb dL_law_32 (by decide) (by decide) (by decide) (by decide) ?_
      refine lv_aload_n hx hb dL_law_355 rfl (lv_at hl 2 rfl) ?_
      refine lv_aload_n hx hb dL_law_356 rfl (lv_at hl 1 rfl) ?_
      refine lv_iload_n hx hb dL_law_357 rfl (lv_at hl 0 rfl) ?_
      refine lv_iconst (v := (1 : Int32)) hx hb dL_law_358 (by decide) ?_
      refine lv_iadd hx hb dL_law_359 ?_
      refine va_sld hx hb hX hbl hbA hS (s_in hlt (k := 1) (by decide)) dL_law_360 ?_
      refine kk_callP (va_runV (As := [.int (xs ((nI i) + (1 : Int32)).toNatClampNeg)]) (rest := []) ⟨hx, hb, hml, hown, hts⟩ (c_F_isField l hF (xs ((nI i) + (1 : Int32)).toNatClampNeg)) (cwV 1 hts (gV tw_89 tw_56 tw_57 tw_1 tw_58) rfl rfl rfl (by decide +kernel) ⟨Nat.le_of_ble_eq_true rfl, Nat.le_of_ble_eq_true rfl⟩) ⟨fun _ _ _ _ q => q, va_recv hK hP (ci := 0) (q0 := 0) rfl rfl, fun _ _ _ => ⟨rfl, trivial⟩⟩ rfl rfl hl.1 rfl (lv_room (Nat.le_of_ble_eq_true rfl)) dL_law_361 ⟨Nat.le_of_ble_eq_true rfl, Nat.le_of_ble_eq_true rfl⟩) hS hP (fun H locs hS hP => ?_)
      refine lv_aload_n hx hb dL_law_364 rfl (lv_at hl 3 rfl) ?_
      refine lv_aload_n hx hb dL_law_365 rfl (lv_at hl 1 rfl) ?_
      refine lv_iload_n hx hb dL_law_366 rfl (lv_at hl 0 rfl) ?_
      refine lv_iconst (v := (1 : Int32)) hx hb dL_law_367 (by decide) ?_
      refine lv_iadd hx hb dL_law_368 ?_
      refine va_sld hx hb hX hbl hbA hS (s_in hlt (k := 1) (by decide)) dL_law_369 ?_
      refine kk_callP (va_runV (As := [.int (xs ((nI i) + (1 : Int32)).toNatClampNeg)]) (rest := [.int (f_F_isField (xs ((nI i) + (1 : Int32)).toNatClampNeg))]) ⟨hx, hb, hml, hown, hts⟩ (c_M_isField l hM (xs ((nI i) + (1 : Int32)).toNatClampNeg)) (cwV 1 hts (gV tw_277 tw_278 tw_279 tw_2 tw_280) rfl rfl rfl (by decide +kernel) ⟨Nat.le_of_ble_eq_true rfl, Nat.le_of_ble_eq_true rfl⟩) ⟨fun _ _ _ _ q => q, va_recv hK hP (ci := 1) (q0 := 2) rfl rfl, fun _ _ _ => ⟨rfl, trivial⟩⟩ rfl rfl hl.1 rfl (lv_room (Nat.le_of_ble_eq_true rfl)) dL_law_370 ⟨Nat.le_of_ble_eq_true rfl, Nat.le_of_ble_eq_true rfl⟩) hS hP (fun H locs hS hP => ?_)
      refine lv_icmp_eq (tgt := 424) hx hb dL_law_373 (by decide) (fun _ => ?_) (fun c0 => absurd (P_isField _) c0)
      refine lv_iinc (v := (nI (i + 4))) (lv' := [(3, .int (nI (i + 4))), (0, .ref b0), (1, .ref hF), (2, .ref hM)]) hx hb dL_law_424 hl (k := 0) rfl (nI_add i 4) (by decide) rfl (fun ls hl => ?_)
      refine lv_goto (tgt := 18) hx hb dL_law_427 (by decide) ?_
      exact ih (i + 4) (by omega) (by omega) f g b t w hR hT H locs hP hD hS ls (lv_sub hl [0, 1, 2, 3] rfl)
    · refine lv_tableIn (off := 346) (tgt := 378) hx hb dL_law_32 (by decide) (by decide) (by decide) (by decide) ?_
      refine lv_aload_n hx hb dL_law_378 rfl (lv_at hl 2 rfl) ?_
      refine lv_aload_n hx hb dL_law_379 rfl (lv_at hl 1 rfl) ?_
      refine lv_iload_n hx hb dL_law_380 rfl (lv_at hl 0 rfl) ?_
      refine lv_iconst (v := (1 : Int32)) hx hb dL_law_381 (by decide) ?_
      refine lv_iadd hx hb dL_law_382 ?_
      refine va_sld hx hb hX hbl hbA hS (s_in hlt (k := 1) (by decide)) dL_law_383 ?_
      refine kk_callP (va_runV (As := [.int (xs ((nI i) + (1 : Int32)).toNatClampNeg)]) (rest := []) ⟨hx, hb, hml, hown, hts⟩ (c_F_letter l hF sK sV (xs ((nI i) + (1 : Int32)).toNatClampNeg)) (cwV 1 hts (gV tw_90 tw_91 tw_92 tw_1 tw_93) rfl rfl rfl (by decide +kernel) ⟨Nat.le_of_ble_eq_true rfl, Nat.le_of_ble_eq_true rfl⟩) ⟨fun _ _ _ _ q => ⟨q.1, q.2.bl⟩, va_recv hK hP (ci := 0) (q0 := 0) rfl rfl, fun U hU hW => ⟨rfl, hE.go hS hU hW⟩⟩ rfl rfl hl.1 rfl (lv_room (Nat.le_of_ble_eq_true rfl)) dL_law_384 ⟨Nat.le_of_ble_eq_true rfl, Nat.le_of_ble_eq_true rfl⟩) hS hP (fun H locs hS hP => ?_)
      refine lv_aload_n hx hb dL_law_387 rfl (lv_at hl 3 rfl) ?_
      refine lv_aload_n hx hb dL_law_388 rfl (lv_at hl 1 rfl) ?_
      refine lv_iload_n hx hb dL_law_389 rfl (lv_at hl 0 rfl) ?_
      refine lv_iconst (v := (1 : Int32)) hx hb dL_law_390 (by decide) ?_
      refine lv_iadd hx hb dL_law_391 ?_
      refine va_sld hx hb hX hbl hbA hS (s_in hlt (k := 1) (by decide)) dL_law_392 ?_
      refine kk_callP (va_runV (As := [.int (xs ((nI i) + (1 : Int32)).toNatClampNeg)]) (rest := [.int (f_F_letter (xs ((nI i) + (1 : Int32)).toNatClampNeg))]) ⟨hx, hb, hml, hown, hts⟩ (c_M_letter l dC dI hM q1 q2 q3 q4 k1 k2 k3 k4 g b t w (xs ((nI i) + (1 : Int32)).toNatClampNeg)) (cwV 1 hts (gV tw_281 tw_282 tw_283 tw_2 tw_284) rfl rfl rfl (by decide +kernel) ⟨Nat.le_of_ble_eq_true rfl, Nat.le_of_ble_eq_true rfl⟩) ⟨fun a U g mk q => ⟨q.1, q.2.1, va_K.moved (u := U) (U := U.calling g mk a) (Vm.Alike.refl U.vm) q.2.2⟩, va_recv hK hP (ci := 1) (q0 := 2) rfl rfl, fun U hU hW => ⟨rfl, by rw [hU]; exact hP.sub [2, 3, 4, 5, 6] rfl, va_K.moved hW.alike (hK.sub [1, 2, 3, 4] rfl)⟩⟩ rfl rfl hl.1 rfl (lv_room (Nat.le_of_ble_eq_true rfl)) dL_law_393 ⟨Nat.le_of_ble_eq_true rfl, Nat.le_of_ble_eq_true rfl⟩) hS hP (fun H locs hS hP => ?_)
      refine lv_icmp_eq (tgt := 424) hx hb dL_law_396 (by decide) (fun _ => ?_) (fun c0 => absurd (P_letter hT _) c0)
      refine lv_iinc (v := (nI (i + 4))) (lv' := [(3, .int (nI (i + 4))), (0, .ref b0), (1, .ref hF), (2, .ref hM)]) hx hb dL_law_424 hl (k := 0) rfl (nI_add i 4) (by decide) rfl (fun ls hl => ?_)
      refine lv_goto (tgt := 18) hx hb dL_law_427 (by decide) ?_
      exact ih (i + 4) (by omega) (by omega) f g b t w hR hT H locs hP hD hS ls (lv_sub hl [0, 1, 2, 3] rfl)
    · refine lv_tableIn (off := 369) (tgt := 401) hx hb dL_law_32 (by decide) (by decide) (by decide) (by decide) ?_
      refine lv_aload_n hx hb dL_law_401 rfl (lv_at hl 2 rfl) ?_
      refine lv_aload_n hx hb dL_law_402 rfl (lv_at hl 1 rfl) ?_
      refine lv_iload_n hx hb dL_law_403 rfl (lv_at hl 0 rfl) ?_
      refine lv_iconst (v := (1 : Int32)) hx hb dL_law_404 (by decide) ?_
      refine lv_iadd hx hb dL_law_405 ?_
      refine va_sld hx hb hX hbl hbA hS (s_in hlt (k := 1) (by decide)) dL_law_406 ?_
      refine kk_callP (va_runV (As := [.int (xs ((nI i) + (1 : Int32)).toNatClampNeg)]) (rest := []) ⟨hx, hb, hml, hown, hts⟩ (c_F_code l hF sK sV (xs ((nI i) + (1 : Int32)).toNatClampNeg)) (cwV 1 hts (gV tw_144 tw_145 tw_146 tw_1 tw_147) rfl rfl rfl (by decide +kernel) ⟨Nat.le_of_ble_eq_true rfl, Nat.le_of_ble_eq_true rfl⟩) ⟨fun _ _ _ _ q => ⟨q.1, q.2.bl⟩, va_recv hK hP (ci := 0) (q0 := 0) rfl rfl, fun U hU hW => ⟨rfl, hE.go hS hU hW⟩⟩ rfl rfl hl.1 rfl (lv_room (Nat.le_of_ble_eq_true rfl)) dL_law_407 ⟨Nat.le_of_ble_eq_true rfl, Nat.le_of_ble_eq_true rfl⟩) hS hP (fun H locs hS hP => ?_)
      refine lv_aload_n hx hb dL_law_410 rfl (lv_at hl 3 rfl) ?_
      refine lv_aload_n hx hb dL_law_411 rfl (lv_at hl 1 rfl) ?_
      refine lv_iload_n hx hb dL_law_412 rfl (lv_at hl 0 rfl) ?_
      refine lv_iconst (v := (1 : Int32)) hx hb dL_law_413 (by decide) ?_
      refine lv_iadd hx hb dL_law_414 ?_
      refine va_sld hx hb hX hbl hbA hS (s_in hlt (k := 1) (by decide)) dL_law_415 ?_
      refine kk_callP (va_runV (As := [.int (xs ((nI i) + (1 : Int32)).toNatClampNeg)]) (rest := [.int (f_F_code (xs ((nI i) + (1 : Int32)).toNatClampNeg))]) ⟨hx, hb, hml, hown, hts⟩ (c_M_code l dC dI hM q1 q2 q3 q4 k1 k2 k3 k4 g b t w (xs ((nI i) + (1 : Int32)).toNatClampNeg)) (cwV 1 hts (gV tw_285 tw_286 tw_287 tw_2 tw_288) rfl rfl rfl (by decide +kernel) ⟨Nat.le_of_ble_eq_true rfl, Nat.le_of_ble_eq_true rfl⟩) ⟨fun a U g mk q => ⟨q.1, q.2.1, va_K.moved (u := U) (U := U.calling g mk a) (Vm.Alike.refl U.vm) q.2.2⟩, va_recv hK hP (ci := 1) (q0 := 2) rfl rfl, fun U hU hW => ⟨rfl, by rw [hU]; exact hP.sub [2, 3, 4, 5, 6] rfl, va_K.moved hW.alike (hK.sub [1, 2, 3, 4] rfl)⟩⟩ rfl rfl hl.1 rfl (lv_room (Nat.le_of_ble_eq_true rfl)) dL_law_416 ⟨Nat.le_of_ble_eq_true rfl, Nat.le_of_ble_eq_true rfl⟩) hS hP (fun H locs hS hP => ?_)
      refine lv_icmp_eq (tgt := 424) hx hb dL_law_419 (by decide) (fun _ => ?_) (fun c0 => absurd (P_code hT _) c0)
      refine lv_iinc (v := (nI (i + 4))) (lv' := [(3, .int (nI (i + 4))), (0, .ref b0), (1, .ref hF), (2, .ref hM)]) hx hb dL_law_424 hl (k := 0) rfl (nI_add i 4) (by decide) rfl (fun ls hl => ?_)
      refine lv_goto (tgt := 18) hx hb dL_law_427 (by decide) ?_
      exact ih (i + 4) (by omega) (by omega) f g b t w hR hT H locs hP hD hS ls (lv_sub hl [0, 1, 2, 3] rfl)
    · refine lv_tableOut (tgt := 424) hx hb dL_law_32 (Or.inr (by rw [nI_toInt (by omega)]; omega)) (by decide) ?_
      refine lv_iinc (v := (nI (i + 4))) (lv' := [(3, .int (nI (i + 4))), (0, .ref b0), (1, .ref hF), (2, .ref hM)]) hx hb dL_law_424 hl (k := 0) rfl (nI_add i 4) (by decide) rfl (fun ls hl => ?_)
      refine lv_goto (tgt := 18) hx hb dL_law_427 (by decide) ?_
      exact ih (i + 4) (by omega) (by omega) f g b t w hR hT H locs hP hD hS ls (lv_sub hl [0, 1, 2, 3] rfl)
